/-! ===== BEGIN words of one list among another's, by their places ===== -/
theorem goodIn_r {big : List Cond} (ws : List Cond) (ps : List Nat) (hp : ws = ps.filterMap (fun i => big[i]?)) (h : ws.all goodWord = true) : GoodIn big ws := by
  intro w hw
  have h1 := List.all_eq_true.mp h w hw
  rw [hp] at hw
  obtain ⟨i, -, hi⟩ := List.mem_filterMap.mp hw
  have hm : w ∈ big := by first | exact List.mem_of_getElem? hi | exact List.getElem?_mem hi
  exact ⟨hm, good_of_word h1⟩
theorem goodIn_app {big a b : List Cond} (ha : GoodIn big a) (hb : GoodIn big b) : GoodIn big (a ++ b) := fun w h => (List.mem_append.mp h).elim (ha w) (hb w)
theorem goodIn_ca {big a b : List Cond} {c : Cond} (ha : GoodIn big (c :: a)) (hb : GoodIn big b) : GoodIn big (c :: (a ++ b)) := fun w h => (List.mem_cons.mp h).elim (fun e => ha w (List.mem_cons.mpr (Or.inl e))) (fun h => (List.mem_append.mp h).elim (fun h => ha w (List.mem_cons.mpr (Or.inr h))) (hb w))
theorem goodIn_sub {big ws : List Cond} (hm : ∀ w ∈ ws, w ∈ big) (h : ws.all goodWord = true) : GoodIn big ws := fun w hw => ⟨hm w hw, good_of_word (List.all_eq_true.mp h w hw)⟩
/-! ===== END ===== -/

/-! ===== BEGIN printed: names, fields, word lists, decode rows ===== -/
def RX0 : String := "WheelDesk$Craft"
def TX0 : u_T := fun k => match k with
  | 0 => ("WheelDesk$Craft", "now", "I", false)
  | 1 => ("WheelDesk$Craft", "settings", "[I", true)
  | 2 => ("WheelDesk$Craft", "given", "[[I", true)
  | 3 => ("WheelDesk$Craft", "angle", "[J", true)
  | 4 => ("WheelDesk$Craft", "momentum", "[J", true)
  | 5 => ("WheelDesk$Craft", "outside", "[J", true)
  | 6 => ("WheelDesk$Craft", "wished", "[J", true)
  | 7 => ("WheelDesk$Craft", "wheelRow", "[LWheelDesk$Wheel;", true)
  | 8 => ("WheelDesk$Craft", "wheelCount", "I", false)
  | 9 => ("WheelDesk$Craft", "reasons", "[I", true)
  | _ => ("WheelDesk$Craft", "reasonCount", "I", false)
def tyX0 : Nat → FieldType := fun k => match k with
  | 0 => .int
  | 1 => .array .int
  | 2 => .array (.array .int)
  | 3 => .array .long
  | 4 => .array .long
  | 5 => .array .long
  | 6 => .array .long
  | 7 => .array (.object "WheelDesk$Wheel")
  | 8 => .int
  | 9 => .array .int
  | _ => .int
abbrev wsX00 : List Cond := u_ws RX0 TX0 11
theorem nmX0 : ∀ a, a < 11 → ∀ b, b < 11 → a ≠ b → (TX0 a).2.1 ≠ (TX0 b).2.1 := by decide +kernel
theorem tyX0_ok : ∀ k, k < 11 → parseFieldDescriptor (TX0 k).2.2.1 = some (tyX0 k) := by decide +kernel
abbrev cX0_init : ByteArray := prog_2_method_1_code
def yX0_init : MethodName := ⟨RX0, "<init>", "()V"⟩
abbrev cX0_become : ByteArray := prog_2_method_2_code
def yX0_become : MethodName := ⟨RX0, "become", "(LWheelDesk$Craft;)V"⟩
abbrev cX0_number : ByteArray := prog_2_method_3_code
def yX0_number : MethodName := ⟨RX0, "number", "(II)J"⟩
abbrev cX0_rate : ByteArray := prog_2_method_4_code
def yX0_rate : MethodName := ⟨RX0, "rate", "(I)J"⟩
abbrev cX0_wheelMomentum : ByteArray := prog_2_method_5_code
def yX0_wheelMomentum : MethodName := ⟨RX0, "wheelMomentum", "(I)J"⟩
abbrev cX0_aside : ByteArray := prog_2_method_6_code
def yX0_aside : MethodName := ⟨RX0, "aside", "(I)J"⟩
abbrev cX0_offTarget : ByteArray := prog_2_method_7_code
def yX0_offTarget : MethodName := ⟨RX0, "offTarget", "()J"⟩
abbrev cX0_isOnTarget : ByteArray := prog_2_method_8_code
def yX0_isOnTarget : MethodName := ⟨RX0, "isOnTarget", "(I)Z"⟩
abbrev cX0_isMet : ByteArray := prog_2_method_9_code
def yX0_isMet : MethodName := ⟨RX0, "isMet", "()Z"⟩
abbrev cX0_findWish : ByteArray := prog_2_method_10_code
def yX0_findWish : MethodName := ⟨RX0, "findWish", "()V"⟩
abbrev cX0_pushFromOutside : ByteArray := prog_2_method_11_code
def yX0_pushFromOutside : MethodName := ⟨RX0, "pushFromOutside", "(IJ)V"⟩
abbrev cX0_disturb : ByteArray := prog_2_method_12_code
def yX0_disturb : MethodName := ⟨RX0, "disturb", "()V"⟩
abbrev cX0_turn : ByteArray := prog_2_method_13_code
def yX0_turn : MethodName := ⟨RX0, "turn", "()V"⟩
abbrev cX0_tellMet : ByteArray := prog_2_method_14_code
def yX0_tellMet : MethodName := ⟨RX0, "tellMet", "()V"⟩
abbrev cX0_tellNoSpan : ByteArray := prog_2_method_15_code
def yX0_tellNoSpan : MethodName := ⟨RX0, "tellNoSpan", "()V"⟩
abbrev cX0_tellLimited : ByteArray := prog_2_method_16_code
def yX0_tellLimited : MethodName := ⟨RX0, "tellLimited", "(IZ)V"⟩
def RX1 : String := "WheelDesk$History"
def TX1 : u_T := fun k => match k with
  | 0 => ("WheelDesk$History", "states", "[LWheelDesk$Craft;", true)
  | _ => ("WheelDesk$History", "kept", "I", false)
def tyX1 : Nat → FieldType := fun k => match k with
  | 0 => .array (.object "WheelDesk$Craft")
  | _ => .int
abbrev wsX10 : List Cond := u_ws RX1 TX1 2
theorem nmX1 : ∀ a, a < 2 → ∀ b, b < 2 → a ≠ b → (TX1 a).2.1 ≠ (TX1 b).2.1 := by decide +kernel
theorem tyX1_ok : ∀ k, k < 2 → parseFieldDescriptor (TX1 k).2.2.1 = some (tyX1 k) := by decide +kernel
abbrev cX1_init : ByteArray := prog_3_method_1_code
def yX1_init : MethodName := ⟨RX1, "<init>", "()V"⟩
abbrev cX1_keep : ByteArray := prog_3_method_2_code
def yX1_keep : MethodName := ⟨RX1, "keep", "(LWheelDesk$Craft;)V"⟩
abbrev cX1_dropOldest : ByteArray := prog_3_method_3_code
def yX1_dropOldest : MethodName := ⟨RX1, "dropOldest", "()V"⟩
abbrev cX1_giveBack : ByteArray := prog_3_method_4_code
def yX1_giveBack : MethodName := ⟨RX1, "giveBack", "(LWheelDesk$Craft;)I"⟩
def RX2 : String := "WheelDesk$Magnets"
def TX2 : u_T := fun k => match k with
  | 0 => ("WheelDesk$Magnets", "held", "[J", true)
  | _ => ("WheelDesk$Magnets", "moment", "[J", true)
def tyX2 : Nat → FieldType := fun k => match k with
  | 0 => .array .long
  | _ => .array .long
abbrev wsX20 : List Cond := u_ws RX2 TX2 2
theorem nmX2 : ∀ a, a < 2 → ∀ b, b < 2 → a ≠ b → (TX2 a).2.1 ≠ (TX2 b).2.1 := by decide +kernel
theorem tyX2_ok : ∀ k, k < 2 → parseFieldDescriptor (TX2 k).2.2.1 = some (tyX2 k) := by decide +kernel
abbrev cX2_init : ByteArray := prog_4_method_1_code
def yX2_init : MethodName := ⟨RX2, "<init>", "()V"⟩
abbrev cX2_letGo : ByteArray := prog_4_method_2_code
def yX2_letGo : MethodName := ⟨RX2, "letGo", "(LWheelDesk$Craft;)V"⟩
abbrev cX2_crossed : ByteArray := prog_4_method_3_code
def yX2_crossed : MethodName := ⟨RX2, "crossed", "([J[II)J"⟩
def RX3 : String := "WheelDesk$Sharing"
def TX3 : u_T := fun k => match k with
  | 0 => ("WheelDesk$Sharing", "matrix", "[[J", true)
  | 1 => ("WheelDesk$Sharing", "cofactor", "[[J", true)
  | 2 => ("WheelDesk$Sharing", "aimed", "[J", true)
  | _ => ("WheelDesk$Sharing", "determinant", "J", false)
def tyX3 : Nat → FieldType := fun k => match k with
  | 0 => .array (.array .long)
  | 1 => .array (.array .long)
  | 2 => .array .long
  | _ => .long
abbrev wsX30 : List Cond := u_ws RX3 TX3 4
theorem nmX3 : ∀ a, a < 4 → ∀ b, b < 4 → a ≠ b → (TX3 a).2.1 ≠ (TX3 b).2.1 := by decide +kernel
theorem tyX3_ok : ∀ k, k < 4 → parseFieldDescriptor (TX3 k).2.2.1 = some (tyX3 k) := by decide +kernel
abbrev cX3_init : ByteArray := prog_5_method_1_code
def yX3_init : MethodName := ⟨RX3, "<init>", "()V"⟩
abbrev cX3_measure : ByteArray := prog_5_method_2_code
def yX3_measure : MethodName := ⟨RX3, "measure", "(LWheelDesk$Craft;I)V"⟩
abbrev cX3_addProducts : ByteArray := prog_5_method_3_code
def yX3_addProducts : MethodName := ⟨RX3, "addProducts", "([I)V"⟩
abbrev cX3_findCofactors : ByteArray := prog_5_method_4_code
def yX3_findCofactors : MethodName := ⟨RX3, "findCofactors", "()V"⟩
abbrev cX3_spans : ByteArray := prog_5_method_5_code
def yX3_spans : MethodName := ⟨RX3, "spans", "()Z"⟩
abbrev cX3_aim : ByteArray := prog_5_method_6_code
def yX3_aim : MethodName := ⟨RX3, "aim", "(JJJ)V"⟩
abbrev cX3_wishOf : ByteArray := prog_5_method_7_code
def yX3_wishOf : MethodName := ⟨RX3, "wishOf", "(LWheelDesk$Wheel;)J"⟩
abbrev cX3_share : ByteArray := prog_5_method_8_code
def yX3_share : MethodName := ⟨RX3, "share", "(LWheelDesk$Craft;)V"⟩
abbrev cX3_give : ByteArray := prog_5_method_9_code
def yX3_give : MethodName := ⟨RX3, "give", "(LWheelDesk$Craft;I)V"⟩
def RX4 : String := "WheelDesk$Wheel"
def TX4 : u_T := fun k => match k with
  | 0 => ("WheelDesk$Wheel", "direction", "[I", true)
  | 1 => ("WheelDesk$Wheel", "momentum", "I", false)
  | 2 => ("WheelDesk$Wheel", "mostMomentum", "I", false)
  | 3 => ("WheelDesk$Wheel", "mostTorque", "I", false)
  | 4 => ("WheelDesk$Wheel", "failed", "Z", false)
  | _ => ("WheelDesk$Wheel", "got", "I", false)
def tyX4 : Nat → FieldType := fun k => match k with
  | 0 => .array .int
  | 1 => .int
  | 2 => .int
  | 3 => .int
  | 4 => .boolean
  | _ => .int
abbrev wsX40 : List Cond := u_ws RX4 TX4 6
theorem nmX4 : ∀ a, a < 6 → ∀ b, b < 6 → a ≠ b → (TX4 a).2.1 ≠ (TX4 b).2.1 := by decide +kernel
theorem tyX4_ok : ∀ k, k < 6 → parseFieldDescriptor (TX4 k).2.2.1 = some (tyX4 k) := by decide +kernel
abbrev cX4_init : ByteArray := prog_6_method_1_code
def yX4_init : MethodName := ⟨RX4, "<init>", "()V"⟩
abbrev cX4_start : ByteArray := prog_6_method_2_code
def yX4_start : MethodName := ⟨RX4, "start", "(IIIII)V"⟩
abbrev cX4_become : ByteArray := prog_6_method_3_code
def yX4_become : MethodName := ⟨RX4, "become", "(LWheelDesk$Wheel;)V"⟩
abbrev cX4_number : ByteArray := prog_6_method_4_code
def yX4_number : MethodName := ⟨RX4, "number", "(I)I"⟩
abbrev cX4_allowedByTorque : ByteArray := prog_6_method_5_code
def yX4_allowedByTorque : MethodName := ⟨RX4, "allowedByTorque", "(J)J"⟩
abbrev cX4_allowedByMomentum : ByteArray := prog_6_method_6_code
def yX4_allowedByMomentum : MethodName := ⟨RX4, "allowedByMomentum", "(J)J"⟩
abbrev cX4_fullPart : ByteArray := prog_6_method_7_code
def yX4_fullPart : MethodName := ⟨RX4, "fullPart", "()F"⟩
def RX5 : String := "WheelDesk"
def TX5 : u_T := fun k => match k with
  | 0 => ("WheelDesk", "craft", "LWheelDesk$Craft;", true)
  | 1 => ("WheelDesk", "trial", "LWheelDesk$Craft;", true)
  | 2 => ("WheelDesk", "sharing", "LWheelDesk$Sharing;", true)
  | 3 => ("WheelDesk", "magnets", "LWheelDesk$Magnets;", true)
  | _ => ("WheelDesk", "history", "LWheelDesk$History;", true)
def tyX5 : Nat → FieldType := fun k => match k with
  | 0 => .object "WheelDesk$Craft"
  | 1 => .object "WheelDesk$Craft"
  | 2 => .object "WheelDesk$Sharing"
  | 3 => .object "WheelDesk$Magnets"
  | _ => .object "WheelDesk$History"
abbrev wsX50 : List Cond := u_ws RX5 TX5 5
theorem nmX5 : ∀ a, a < 5 → ∀ b, b < 5 → a ≠ b → (TX5 a).2.1 ≠ (TX5 b).2.1 := by decide +kernel
theorem tyX5_ok : ∀ k, k < 5 → parseFieldDescriptor (TX5 k).2.2.1 = some (tyX5 k) := by decide +kernel
abbrev cX5_init : ByteArray := prog_1_method_1_code
def yX5_init : MethodName := ⟨RX5, "<init>", "()V"⟩
abbrev cX5_addWheel : ByteArray := prog_1_method_2_code
def yX5_addWheel : MethodName := ⟨RX5, "addWheel", "(IIIII)I"⟩
abbrev cX5_fail : ByteArray := prog_1_method_3_code
def yX5_fail : MethodName := ⟨RX5, "fail", "(IZ)I"⟩
abbrev cX5_setMost : ByteArray := prog_1_method_4_code
def yX5_setMost : MethodName := ⟨RX5, "setMost", "(IZI)I"⟩
abbrev cX5_wheel : ByteArray := prog_1_method_5_code
def yX5_wheel : MethodName := ⟨RX5, "wheel", "(II)I"⟩
abbrev cX5_wheels : ByteArray := prog_1_method_6_code
def yX5_wheels : MethodName := ⟨RX5, "wheels", "()I"⟩
abbrev cX5_setAxis : ByteArray := prog_1_method_7_code
def yX5_setAxis : MethodName := ⟨RX5, "setAxis", "(III)I"⟩
abbrev cX5_set : ByteArray := prog_1_method_8_code
def yX5_set : MethodName := ⟨RX5, "set", "(II)I"⟩
abbrev cX5_setting : ByteArray := prog_1_method_9_code
def yX5_setting : MethodName := ⟨RX5, "setting", "(I)I"⟩
abbrev cX5_strike : ByteArray := prog_1_method_10_code
def yX5_strike : MethodName := ⟨RX5, "strike", "(II)J"⟩
abbrev cX5_tick : ByteArray := prog_1_method_11_code
def yX5_tick : MethodName := ⟨RX5, "tick", "(I)I"⟩
abbrev cX5_time : ByteArray := prog_1_method_12_code
def yX5_time : MethodName := ⟨RX5, "time", "()I"⟩
abbrev cX5_axis : ByteArray := prog_1_method_13_code
def yX5_axis : MethodName := ⟨RX5, "axis", "(II)J"⟩
abbrev cX5_span : ByteArray := prog_1_method_14_code
def yX5_span : MethodName := ⟨RX5, "span", "()J"⟩
abbrev cX5_wish : ByteArray := prog_1_method_15_code
def yX5_wish : MethodName := ⟨RX5, "wish", "(IIII)J"⟩
abbrev cX5_why : ByteArray := prog_1_method_16_code
def yX5_why : MethodName := ⟨RX5, "why", "(I)I"⟩
abbrev cX5_fullness : ByteArray := prog_1_method_17_code
def yX5_fullness : MethodName := ⟨RX5, "fullness", "()F"⟩
abbrev cX5_arrives : ByteArray := prog_1_method_18_code
def yX5_arrives : MethodName := ⟨RX5, "arrives", "(I)I"⟩
abbrev cX5_spare : ByteArray := prog_1_method_19_code
def yX5_spare : MethodName := ⟨RX5, "spare", "()I"⟩
abbrev cX5_gravest : ByteArray := prog_1_method_20_code
def yX5_gravest : MethodName := ⟨RX5, "gravest", "(I)I"⟩
abbrev cX5_undo : ByteArray := prog_1_method_21_code
def yX5_undo : MethodName := ⟨RX5, "undo", "()I"⟩
abbrev cX5_fingerprint : ByteArray := prog_1_method_22_code
def yX5_fingerprint : MethodName := ⟨RX5, "fingerprint", "()J"⟩
abbrev cX5_mixed : ByteArray := prog_1_method_23_code
def yX5_mixed : MethodName := ⟨RX5, "mixed", "(JJ)J"⟩
abbrev cX5_isWithin : ByteArray := prog_1_method_24_code
def yX5_isWithin : MethodName := ⟨RX5, "isWithin", "(III)Z"⟩
abbrev cX5_isAxis : ByteArray := prog_1_method_25_code
def yX5_isAxis : MethodName := ⟨RX5, "isAxis", "(I)Z"⟩
abbrev cX5_isTorque : ByteArray := prog_1_method_26_code
def yX5_isTorque : MethodName := ⟨RX5, "isTorque", "(I)Z"⟩
abbrev cX5_isDirection : ByteArray := prog_1_method_27_code
def yX5_isDirection : MethodName := ⟨RX5, "isDirection", "(III)Z"⟩
abbrev cX5_isWheel : ByteArray := prog_1_method_28_code
def yX5_isWheel : MethodName := ⟨RX5, "isWheel", "(I)Z"⟩
abbrev cX5_limited : ByteArray := prog_1_method_29_code
def yX5_limited : MethodName := ⟨RX5, "limited", "(JJJ)J"⟩
abbrev cX5_quotient : ByteArray := prog_1_method_30_code
def yX5_quotient : MethodName := ⟨RX5, "quotient", "(JJ)J"⟩
abbrev cX5_axisAfter : ByteArray := prog_1_method_31_code
def yX5_axisAfter : MethodName := ⟨RX5, "axisAfter", "(II)I"⟩
abbrev cX5_passOne : ByteArray := prog_1_method_32_code
def yX5_passOne : MethodName := ⟨RX5, "passOne", "(LWheelDesk$Craft;)V"⟩
abbrev cX5_offWithout : ByteArray := prog_1_method_33_code
def yX5_offWithout : MethodName := ⟨RX5, "offWithout", "(II)J"⟩
def RX6 : String := "WheelDeskModel"
def TX6 : u_T := fun k => match k with
  | 0 => ("WheelDeskModel", "v", "[J", true)
  | 1 => ("WheelDeskModel", "aside", "[J", true)
  | 2 => ("WheelDeskModel", "past", "[J", true)
  | 3 => ("WheelDeskModel", "pastMany", "I", false)
  | 4 => ("WheelDeskModel", "m", "[J", true)
  | 5 => ("WheelDeskModel", "c", "[J", true)
  | 6 => ("WheelDeskModel", "det", "J", false)
  | 7 => ("WheelDeskModel", "turn", "[J", true)
  | 8 => ("WheelDeskModel", "h", "[J", true)
  | 9 => ("WheelDeskModel", "b", "[J", true)
  | _ => ("WheelDeskModel", "moment", "[J", true)
def tyX6 : Nat → FieldType := fun k => match k with
  | 0 => .array .long
  | 1 => .array .long
  | 2 => .array .long
  | 3 => .int
  | 4 => .array .long
  | 5 => .array .long
  | 6 => .long
  | 7 => .array .long
  | 8 => .array .long
  | 9 => .array .long
  | _ => .array .long
abbrev wsX60 : List Cond := u_ws RX6 TX6 11
theorem nmX6 : ∀ a, a < 11 → ∀ b, b < 11 → a ≠ b → (TX6 a).2.1 ≠ (TX6 b).2.1 := by decide +kernel
theorem tyX6_ok : ∀ k, k < 11 → parseFieldDescriptor (TX6 k).2.2.1 = some (tyX6 k) := by decide +kernel
abbrev cX6_init : ByteArray := prog_8_method_1_code
def yX6_init : MethodName := ⟨RX6, "<init>", "()V"⟩
abbrev cX6_in : ByteArray := prog_8_method_2_code
def yX6_in : MethodName := ⟨RX6, "in", "(III)Z"⟩
abbrev cX6_act : ByteArray := prog_8_method_3_code
def yX6_act : MethodName := ⟨RX6, "act", "()V"⟩
abbrev cX6_copies : ByteArray := prog_8_method_4_code
def yX6_copies : MethodName := ⟨RX6, "copies", "([J[J)V"⟩
abbrev cX6_div : ByteArray := prog_8_method_5_code
def yX6_div : MethodName := ⟨RX6, "div", "(JJ)J"⟩
abbrev cX6_nearest : ByteArray := prog_8_method_6_code
def yX6_nearest : MethodName := ⟨RX6, "nearest", "(JJ)J"⟩
abbrev cX6_held : ByteArray := prog_8_method_7_code
def yX6_held : MethodName := ⟨RX6, "held", "(JJ)J"⟩
abbrev cX6_size : ByteArray := prog_8_method_8_code
def yX6_size : MethodName := ⟨RX6, "size", "(J)J"⟩
abbrev cX6_axisAt : ByteArray := prog_8_method_9_code
def yX6_axisAt : MethodName := ⟨RX6, "axisAt", "(II)I"⟩
abbrev cX6_wheelAt : ByteArray := prog_8_method_10_code
def yX6_wheelAt : MethodName := ⟨RX6, "wheelAt", "(II)I"⟩
abbrev cX6_isWheel : ByteArray := prog_8_method_11_code
def yX6_isWheel : MethodName := ⟨RX6, "isWheel", "(I)Z"⟩
abbrev cX6_works : ByteArray := prog_8_method_12_code
def yX6_works : MethodName := ⟨RX6, "works", "(I)Z"⟩
abbrev cX6_reasons : ByteArray := prog_8_method_13_code
def yX6_reasons : MethodName := ⟨RX6, "reasons", "(JJJ)V"⟩
abbrev cX6_isPart : ByteArray := prog_8_method_14_code
def yX6_isPart : MethodName := ⟨RX6, "isPart", "(I)Z"⟩
abbrev cX6_addWheel : ByteArray := prog_8_method_15_code
def yX6_addWheel : MethodName := ⟨RX6, "addWheel", "(IIIII)I"⟩
abbrev cX6_sets : ByteArray := prog_8_method_16_code
def yX6_sets : MethodName := ⟨RX6, "sets", "(II)I"⟩
abbrev cX6_fail : ByteArray := prog_8_method_17_code
def yX6_fail : MethodName := ⟨RX6, "fail", "(IZ)I"⟩
abbrev cX6_setMost : ByteArray := prog_8_method_18_code
def yX6_setMost : MethodName := ⟨RX6, "setMost", "(IZI)I"⟩
abbrev cX6_wheel : ByteArray := prog_8_method_19_code
def yX6_wheel : MethodName := ⟨RX6, "wheel", "(II)I"⟩
abbrev cX6_wheels : ByteArray := prog_8_method_20_code
def yX6_wheels : MethodName := ⟨RX6, "wheels", "()I"⟩
abbrev cX6_isAxis : ByteArray := prog_8_method_21_code
def yX6_isAxis : MethodName := ⟨RX6, "isAxis", "(I)Z"⟩
abbrev cX6_setAxis : ByteArray := prog_8_method_22_code
def yX6_setAxis : MethodName := ⟨RX6, "setAxis", "(III)I"⟩
abbrev cX6_set : ByteArray := prog_8_method_23_code
def yX6_set : MethodName := ⟨RX6, "set", "(II)I"⟩
abbrev cX6_setting : ByteArray := prog_8_method_24_code
def yX6_setting : MethodName := ⟨RX6, "setting", "(I)I"⟩
abbrev cX6_rate : ByteArray := prog_8_method_25_code
def yX6_rate : MethodName := ⟨RX6, "rate", "(I)J"⟩
abbrev cX6_pushes : ByteArray := prog_8_method_26_code
def yX6_pushes : MethodName := ⟨RX6, "pushes", "(IJ)V"⟩
abbrev cX6_strike : ByteArray := prog_8_method_27_code
def yX6_strike : MethodName := ⟨RX6, "strike", "(II)J"⟩
abbrev cX6_other : ByteArray := prog_8_method_28_code
def yX6_other : MethodName := ⟨RX6, "other", "(II)I"⟩
abbrev cX6_spans : ByteArray := prog_8_method_29_code
def yX6_spans : MethodName := ⟨RX6, "spans", "(I)V"⟩
abbrev cX6_wishOf : ByteArray := prog_8_method_30_code
def yX6_wishOf : MethodName := ⟨RX6, "wishOf", "(IJJJ)J"⟩
abbrev cX6_room : ByteArray := prog_8_method_31_code
def yX6_room : MethodName := ⟨RX6, "room", "(IJ)J"⟩
abbrev cX6_gives : ByteArray := prog_8_method_32_code
def yX6_gives : MethodName := ⟨RX6, "gives", "(IJ)V"⟩
abbrev cX6_shares : ByteArray := prog_8_method_33_code
def yX6_shares : MethodName := ⟨RX6, "shares", "()Z"⟩
abbrev cX6_product : ByteArray := prog_8_method_34_code
def yX6_product : MethodName := ⟨RX6, "product", "([J[JI)J"⟩
abbrev cX6_drops : ByteArray := prog_8_method_35_code
def yX6_drops : MethodName := ⟨RX6, "drops", "()V"⟩
abbrev cX6_passes : ByteArray := prog_8_method_36_code
def yX6_passes : MethodName := ⟨RX6, "passes", "()Z"⟩
abbrev cX6_tick : ByteArray := prog_8_method_37_code
def yX6_tick : MethodName := ⟨RX6, "tick", "(I)I"⟩
abbrev cX6_time : ByteArray := prog_8_method_38_code
def yX6_time : MethodName := ⟨RX6, "time", "()I"⟩
abbrev cX6_whole : ByteArray := prog_8_method_39_code
def yX6_whole : MethodName := ⟨RX6, "whole", "(I)J"⟩
abbrev cX6_told : ByteArray := prog_8_method_40_code
def yX6_told : MethodName := ⟨RX6, "told", "(II)J"⟩
abbrev cX6_axis : ByteArray := prog_8_method_41_code
def yX6_axis : MethodName := ⟨RX6, "axis", "(II)J"⟩
abbrev cX6_span : ByteArray := prog_8_method_42_code
def yX6_span : MethodName := ⟨RX6, "span", "()J"⟩
abbrev cX6_isTorque : ByteArray := prog_8_method_43_code
def yX6_isTorque : MethodName := ⟨RX6, "isTorque", "(I)Z"⟩
abbrev cX6_wish : ByteArray := prog_8_method_44_code
def yX6_wish : MethodName := ⟨RX6, "wish", "(IIII)J"⟩
abbrev cX6_why : ByteArray := prog_8_method_45_code
def yX6_why : MethodName := ⟨RX6, "why", "(I)I"⟩
abbrev cX6_fullness : ByteArray := prog_8_method_46_code
def yX6_fullness : MethodName := ⟨RX6, "fullness", "()F"⟩
abbrev cX6_isThere : ByteArray := prog_8_method_47_code
def yX6_isThere : MethodName := ⟨RX6, "isThere", "(I)Z"⟩
abbrev cX6_arrives : ByteArray := prog_8_method_48_code
def yX6_arrives : MethodName := ⟨RX6, "arrives", "(I)I"⟩
abbrev cX6_spare : ByteArray := prog_8_method_49_code
def yX6_spare : MethodName := ⟨RX6, "spare", "()I"⟩
abbrev cX6_gravest : ByteArray := prog_8_method_50_code
def yX6_gravest : MethodName := ⟨RX6, "gravest", "(I)I"⟩
abbrev cX6_undo : ByteArray := prog_8_method_51_code
def yX6_undo : MethodName := ⟨RX6, "undo", "()I"⟩
abbrev cX6_fingerprint : ByteArray := prog_8_method_52_code
def yX6_fingerprint : MethodName := ⟨RX6, "fingerprint", "()J"⟩
def RJ9 : String := "java/lang/Math"
def TJ9 : u_T := fun k => match k with
  | _ => ("", "", "", false)
def tyJ9 : Nat → FieldType := fun k => match k with
  | _ => .int
abbrev wsJ90 : List Cond := u_ws RJ9 TJ9 0
theorem nmJ9 : ∀ a, a < 0 → ∀ b, b < 0 → a ≠ b → (TJ9 a).2.1 ≠ (TJ9 b).2.1 := by decide +kernel
theorem tyJ9_ok : ∀ k, k < 0 → parseFieldDescriptor (TJ9 k).2.2.1 = some (tyJ9 k) := by decide +kernel
abbrev cJ9_floorDiv_f86c9 : ByteArray := prog_9_method_49_code
def yJ9_floorDiv_f86c9 : MethodName := ⟨RJ9, "floorDiv", "(JJ)J"⟩
abbrev cJ9_abs_0f7a4 : ByteArray := prog_9_method_59_code
def yJ9_abs_0f7a4 : MethodName := ⟨RJ9, "abs", "(I)I"⟩
abbrev cJ9_abs_067f4 : ByteArray := prog_9_method_61_code
def yJ9_abs_067f4 : MethodName := ⟨RJ9, "abs", "(J)J"⟩
abbrev cJ9_max_7cf53 : ByteArray := prog_9_method_65_code
def yJ9_max_7cf53 : MethodName := ⟨RJ9, "max", "(II)I"⟩
abbrev cJ9_min_7cf53 : ByteArray := prog_9_method_69_code
def yJ9_min_7cf53 : MethodName := ⟨RJ9, "min", "(II)I"⟩
def RJ10 : String := "java/lang/System"
def TJ10 : u_T := fun k => match k with
  | _ => ("", "", "", false)
def tyJ10 : Nat → FieldType := fun k => match k with
  | _ => .int
abbrev wsJ100 : List Cond := u_ws RJ10 TJ10 0
theorem nmJ10 : ∀ a, a < 0 → ∀ b, b < 0 → a ≠ b → (TJ10 a).2.1 ≠ (TJ10 b).2.1 := by decide +kernel
theorem tyJ10_ok : ∀ k, k < 0 → parseFieldDescriptor (TJ10 k).2.2.1 = some (tyJ10 k) := by decide +kernel
def RL : String := "WheelDeskLaw"
abbrev cL_law : ByteArray := code
def yL_law : MethodName := ⟨RL, "law", "([I)Z"⟩
def wsX4_init : List Cond := .code yX4_init cX4_init 1 none :: ([.methodLink RX4 3 objectInit, .instanceMethod objectInit, .code objectInit ⟨#[0xb1]⟩ 1 none, .arrayClass .int, .fieldLink RX4 9 "WheelDesk$Wheel" "direction" "[I"] ++ wsX40)
def wsX0_init : List Cond := .code yX0_init cX0_init 2 none :: ([.methodLink RX0 3 objectInit, .instanceMethod objectInit, .code objectInit ⟨#[0xb1]⟩ 1 none, .arrayClass .int, .fieldLink RX0 9 "WheelDesk$Craft" "settings" "[I", .classLink RX0 15 "[[I", .fieldLink RX0 17 "WheelDesk$Craft" "given" "[[I", .arrayClass .long, .fieldLink RX0 20 "WheelDesk$Craft" "angle" "[J", .fieldLink RX0 24 "WheelDesk$Craft" "momentum" "[J", .fieldLink RX0 27 "WheelDesk$Craft" "outside" "[J", .fieldLink RX0 30 "WheelDesk$Craft" "wished" "[J", .classLink RX0 33 RX4, .fieldLink RX0 35 "WheelDesk$Craft" "wheelRow" "[LWheelDesk$Wheel;", .fieldLink RX0 39 "WheelDesk$Craft" "reasons" "[I", .instantiable RX4 6, .initialized RX4, .fieldLink RX0 43 "WheelDesk$Craft" "reasonCount" "I", .instanceMethod yX4_init, .code yX4_init cX4_init 1 none, .methodLink RX4 3 objectInit, .fieldLink RX4 9 "WheelDesk$Wheel" "direction" "[I"] ++ wsX00 ++ wsX40)
def wsX4_become : List Cond := .code yX4_become cX4_become 2 none :: ([.fieldLink RX4 9 "WheelDesk$Wheel" "direction" "[I", .methodLink RX4 32 arraycopyName, .native arraycopyName, .static arraycopyName, .initialized "java/lang/System", .fieldLink RX4 15 "WheelDesk$Wheel" "momentum" "I", .fieldLink RX4 19 "WheelDesk$Wheel" "mostMomentum" "I", .fieldLink RX4 22 "WheelDesk$Wheel" "mostTorque" "I", .fieldLink RX4 25 "WheelDesk$Wheel" "failed" "Z", .fieldLink RX4 29 "WheelDesk$Wheel" "got" "I"] ++ wsX40)
def wsX0_become_r1 : List Cond := [Cond.fieldLink RX0 47 "WheelDesk$Craft" "now" "I", Cond.fieldLink RX0 9 "WheelDesk$Craft" "settings" "[I", Cond.methodLink RX0 50 arraycopyName, Cond.native arraycopyName, Cond.static arraycopyName, Cond.initialized "java/lang/System", Cond.fieldLink RX0 17 "WheelDesk$Craft" "given" "[[I", Cond.fieldLink RX0 20 "WheelDesk$Craft" "angle" "[J", Cond.fieldLink RX0 24 "WheelDesk$Craft" "momentum" "[J", Cond.fieldLink RX0 27 "WheelDesk$Craft" "outside" "[J", Cond.fieldLink RX0 30 "WheelDesk$Craft" "wished" "[J", Cond.fieldLink RX0 56 "WheelDesk$Craft" "wheelCount" "I", Cond.fieldLink RX0 35 "WheelDesk$Craft" "wheelRow" "[LWheelDesk$Wheel;", Cond.fieldLink RX0 39 "WheelDesk$Craft" "reasons" "[I", Cond.fieldLink RX0 43 "WheelDesk$Craft" "reasonCount" "I", Cond.methodLink RX0 59 yX4_become, Cond.instanceMethod yX4_become, Cond.selects RX4 yX4_become yX4_become, Cond.initialized RX4, Cond.code yX4_become cX4_become 2 none, Cond.fieldLink RX4 9 "WheelDesk$Wheel" "direction" "[I", Cond.methodLink RX4 32 arraycopyName, Cond.fieldLink RX4 15 "WheelDesk$Wheel" "momentum" "I", Cond.fieldLink RX4 19 "WheelDesk$Wheel" "mostMomentum" "I"]
def wsX0_become_r2 : List Cond := [Cond.fieldLink RX4 22 "WheelDesk$Wheel" "mostTorque" "I", Cond.fieldLink RX4 25 "WheelDesk$Wheel" "failed" "Z", Cond.fieldLink RX4 29 "WheelDesk$Wheel" "got" "I"]
def wsX0_become : List Cond := .code yX0_become cX0_become 3 none :: ((wsX0_become_r1 ++ wsX0_become_r2) ++ wsX00 ++ wsX40)
def wsJ9_floorDiv_f86c9 : List Cond := .code yJ9_floorDiv_f86c9 cJ9_floorDiv_f86c9 6 (some .long) :: ([])
def wsX5_quotient : List Cond := .code yX5_quotient cX5_quotient 4 (some .long) :: ([.methodLink RX5 214 yJ9_floorDiv_f86c9, .static yJ9_floorDiv_f86c9, .initialized RJ9, .code yJ9_floorDiv_f86c9 cJ9_floorDiv_f86c9 6 (some .long)])
def wsX0_rate : List Cond := .code yX0_rate cX0_rate 2 (some .long) :: ([.fieldLink RX0 24 "WheelDesk$Craft" "momentum" "[J", .fieldLink RX0 17 "WheelDesk$Craft" "given" "[[I", .static yX5_quotient, .initialized RX5, .code yX5_quotient cX5_quotient 4 (some .long), .methodLink RX5 214 yJ9_floorDiv_f86c9, .static yJ9_floorDiv_f86c9, .initialized RJ9, .code yJ9_floorDiv_f86c9 cJ9_floorDiv_f86c9 6 (some .long)] ++ wsX00)
def wsX0_wheelMomentum : List Cond := .code yX0_wheelMomentum cX0_wheelMomentum 5 (some .long) :: ([.fieldLink RX0 56 "WheelDesk$Craft" "wheelCount" "I", .fieldLink RX0 35 "WheelDesk$Craft" "wheelRow" "[LWheelDesk$Wheel;", .fieldLink RX0 76 "WheelDesk$Wheel" "direction" "[I", .fieldLink RX0 79 "WheelDesk$Wheel" "momentum" "I"] ++ wsX00 ++ wsX40)
def wsX0_number_r1 : List Cond := [Cond.fieldLink RX0 20 "WheelDesk$Craft" "angle" "[J", Cond.fieldLink RX0 24 "WheelDesk$Craft" "momentum" "[J", Cond.fieldLink RX0 27 "WheelDesk$Craft" "outside" "[J", Cond.fieldLink RX0 30 "WheelDesk$Craft" "wished" "[J", Cond.fieldLink RX0 17 "WheelDesk$Craft" "given" "[[I", Cond.constantLong RX0 70 (-4611686018427387905), Cond.methodLink RX0 63 yX0_rate, Cond.instanceMethod yX0_rate, Cond.selects RX0 yX0_rate yX0_rate, Cond.initialized RX0, Cond.code yX0_rate cX0_rate 2 (some .long), Cond.static yX5_quotient, Cond.initialized RX5, Cond.code yX5_quotient cX5_quotient 4 (some .long), Cond.methodLink RX5 214 yJ9_floorDiv_f86c9, Cond.static yJ9_floorDiv_f86c9, Cond.initialized RJ9, Cond.code yJ9_floorDiv_f86c9 cJ9_floorDiv_f86c9 6 (some .long), Cond.methodLink RX0 67 yX0_wheelMomentum, Cond.instanceMethod yX0_wheelMomentum, Cond.selects RX0 yX0_wheelMomentum yX0_wheelMomentum, Cond.code yX0_wheelMomentum cX0_wheelMomentum 5 (some .long), Cond.fieldLink RX0 56 "WheelDesk$Craft" "wheelCount" "I", Cond.fieldLink RX0 35 "WheelDesk$Craft" "wheelRow" "[LWheelDesk$Wheel;"]
def wsX0_number_r2 : List Cond := [Cond.fieldLink RX0 76 "WheelDesk$Wheel" "direction" "[I", Cond.fieldLink RX0 79 "WheelDesk$Wheel" "momentum" "I"]
def wsX0_number : List Cond := .code yX0_number cX0_number 3 (some .long) :: ((wsX0_number_r1 ++ wsX0_number_r2) ++ wsX00 ++ wsX40)
def wsX0_aside : List Cond := .code yX0_aside cX0_aside 2 (some .long) :: ([.fieldLink RX0 17 "WheelDesk$Craft" "given" "[[I", .fieldLink RX0 20 "WheelDesk$Craft" "angle" "[J", .methodLink RX0 81 Lib.MathLoose.abs_long.x, .static Lib.MathLoose.abs_long.x, .initialized "java/lang/Math", .code Lib.MathLoose.abs_long.x Lib.MathLoose.abs_long.code 2 (some .long)] ++ wsX00)
def wsX0_offTarget : List Cond := .code yX0_offTarget cX0_offTarget 4 (some .long) :: ([.methodLink RX0 87 yX0_aside, .instanceMethod yX0_aside, .selects RX0 yX0_aside yX0_aside, .initialized RX0, .code yX0_aside cX0_aside 2 (some .long), .fieldLink RX0 17 "WheelDesk$Craft" "given" "[[I", .fieldLink RX0 20 "WheelDesk$Craft" "angle" "[J", .methodLink RX0 81 Lib.MathLoose.abs_long.x, .static Lib.MathLoose.abs_long.x, .initialized "java/lang/Math", .code Lib.MathLoose.abs_long.x Lib.MathLoose.abs_long.code 2 (some .long)] ++ wsX00)
def wsX0_isOnTarget : List Cond := .code yX0_isOnTarget cX0_isOnTarget 3 (some .boolean) :: ([.methodLink RX0 81 Lib.MathLoose.abs_long.x, .static Lib.MathLoose.abs_long.x, .initialized "java/lang/Math", .code Lib.MathLoose.abs_long.x Lib.MathLoose.abs_long.code 2 (some .long), .methodLink RX0 87 yX0_aside, .instanceMethod yX0_aside, .selects RX0 yX0_aside yX0_aside, .initialized RX0, .code yX0_aside cX0_aside 2 (some .long), .fieldLink RX0 17 "WheelDesk$Craft" "given" "[[I", .fieldLink RX0 20 "WheelDesk$Craft" "angle" "[J", .methodLink RX0 63 yX0_rate, .instanceMethod yX0_rate, .selects RX0 yX0_rate yX0_rate, .code yX0_rate cX0_rate 2 (some .long), .fieldLink RX0 24 "WheelDesk$Craft" "momentum" "[J", .static yX5_quotient, .initialized RX5, .code yX5_quotient cX5_quotient 4 (some .long), .methodLink RX5 214 yJ9_floorDiv_f86c9, .static yJ9_floorDiv_f86c9, .initialized RJ9, .code yJ9_floorDiv_f86c9 cJ9_floorDiv_f86c9 6 (some .long)] ++ wsX00)
def wsX0_isMet : List Cond := .code yX0_isMet cX0_isMet 1 (some .boolean) :: ([.fieldLink RX0 39 "WheelDesk$Craft" "reasons" "[I"] ++ wsX00)
def wsX5_limited : List Cond := .code yX5_limited cX5_limited 6 (some .long) :: ([])
def wsX0_findWish : List Cond := .code yX0_findWish cX0_findWish 12 none :: ([.fieldLink RX0 9 "WheelDesk$Craft" "settings" "[I", .fieldLink RX0 17 "WheelDesk$Craft" "given" "[[I", .fieldLink RX0 20 "WheelDesk$Craft" "angle" "[J", .constantLong RX0 90 (100), .fieldLink RX0 30 "WheelDesk$Craft" "wished" "[J", .static yX5_quotient, .initialized RX5, .code yX5_quotient cX5_quotient 4 (some .long), .methodLink RX5 214 yJ9_floorDiv_f86c9, .static yJ9_floorDiv_f86c9, .initialized RJ9, .code yJ9_floorDiv_f86c9 cJ9_floorDiv_f86c9 6 (some .long), .static yX5_limited, .code yX5_limited cX5_limited 6 (some .long), .methodLink RX0 63 yX0_rate, .instanceMethod yX0_rate, .selects RX0 yX0_rate yX0_rate, .initialized RX0, .code yX0_rate cX0_rate 2 (some .long), .fieldLink RX0 24 "WheelDesk$Craft" "momentum" "[J"] ++ wsX00)
def wsX0_pushFromOutside : List Cond := .code yX0_pushFromOutside cX0_pushFromOutside 4 none :: ([.fieldLink RX0 24 "WheelDesk$Craft" "momentum" "[J", .fieldLink RX0 27 "WheelDesk$Craft" "outside" "[J"] ++ wsX00)
def wsX0_disturb : List Cond := .code yX0_disturb cX0_disturb 2 none :: ([.fieldLink RX0 17 "WheelDesk$Craft" "given" "[[I", .methodLink RX0 96 yX0_pushFromOutside, .instanceMethod yX0_pushFromOutside, .selects RX0 yX0_pushFromOutside yX0_pushFromOutside, .initialized RX0, .code yX0_pushFromOutside cX0_pushFromOutside 4 none, .fieldLink RX0 24 "WheelDesk$Craft" "momentum" "[J", .fieldLink RX0 27 "WheelDesk$Craft" "outside" "[J"] ++ wsX00)
def wsX0_turn : List Cond := .code yX0_turn cX0_turn 2 none :: ([.fieldLink RX0 20 "WheelDesk$Craft" "angle" "[J", .methodLink RX0 63 yX0_rate, .instanceMethod yX0_rate, .selects RX0 yX0_rate yX0_rate, .initialized RX0, .code yX0_rate cX0_rate 2 (some .long), .fieldLink RX0 24 "WheelDesk$Craft" "momentum" "[J", .fieldLink RX0 17 "WheelDesk$Craft" "given" "[[I", .static yX5_quotient, .initialized RX5, .code yX5_quotient cX5_quotient 4 (some .long), .methodLink RX5 214 yJ9_floorDiv_f86c9, .static yJ9_floorDiv_f86c9, .initialized RJ9, .code yJ9_floorDiv_f86c9 cJ9_floorDiv_f86c9 6 (some .long)] ++ wsX00)
def wsX0_tellMet : List Cond := .code yX0_tellMet cX0_tellMet 1 none :: ([.fieldLink RX0 39 "WheelDesk$Craft" "reasons" "[I", .fieldLink RX0 43 "WheelDesk$Craft" "reasonCount" "I"] ++ wsX00)
def wsX0_tellNoSpan : List Cond := .code yX0_tellNoSpan cX0_tellNoSpan 2 none :: ([.fieldLink RX0 39 "WheelDesk$Craft" "reasons" "[I", .fieldLink RX0 43 "WheelDesk$Craft" "reasonCount" "I", .fieldLink RX0 56 "WheelDesk$Craft" "wheelCount" "I", .fieldLink RX0 35 "WheelDesk$Craft" "wheelRow" "[LWheelDesk$Wheel;", .fieldLink RX0 100 "WheelDesk$Wheel" "failed" "Z"] ++ wsX00 ++ wsX40)
def wsX0_tellLimited : List Cond := .code yX0_tellLimited cX0_tellLimited 3 none :: ([.fieldLink RX0 39 "WheelDesk$Craft" "reasons" "[I", .fieldLink RX0 43 "WheelDesk$Craft" "reasonCount" "I"] ++ wsX00)
def wsX1_init_r1 : List Cond := [Cond.methodLink RX1 3 objectInit, Cond.instanceMethod objectInit, Cond.code objectInit ⟨#[0xb1]⟩ 1 none, Cond.classLink RX1 9 RX0, Cond.fieldLink RX1 11 "WheelDesk$History" "states" "[LWheelDesk$Craft;", Cond.instantiable RX0 11, Cond.initialized RX0, Cond.methodLink RX1 17 yX0_init, Cond.instanceMethod yX0_init, Cond.code yX0_init cX0_init 2 none, Cond.methodLink RX0 3 objectInit, Cond.arrayClass .int, Cond.fieldLink RX0 9 "WheelDesk$Craft" "settings" "[I", Cond.classLink RX0 15 "[[I", Cond.fieldLink RX0 17 "WheelDesk$Craft" "given" "[[I", Cond.arrayClass .long, Cond.fieldLink RX0 20 "WheelDesk$Craft" "angle" "[J", Cond.fieldLink RX0 24 "WheelDesk$Craft" "momentum" "[J", Cond.fieldLink RX0 27 "WheelDesk$Craft" "outside" "[J", Cond.fieldLink RX0 30 "WheelDesk$Craft" "wished" "[J", Cond.classLink RX0 33 RX4, Cond.fieldLink RX0 35 "WheelDesk$Craft" "wheelRow" "[LWheelDesk$Wheel;", Cond.fieldLink RX0 39 "WheelDesk$Craft" "reasons" "[I", Cond.instantiable RX4 6]
def wsX1_init_r2 : List Cond := [Cond.initialized RX4, Cond.fieldLink RX0 43 "WheelDesk$Craft" "reasonCount" "I", Cond.instanceMethod yX4_init, Cond.code yX4_init cX4_init 1 none, Cond.methodLink RX4 3 objectInit, Cond.fieldLink RX4 9 "WheelDesk$Wheel" "direction" "[I"]
def wsX1_init : List Cond := .code yX1_init cX1_init 2 none :: ((wsX1_init_r1 ++ wsX1_init_r2) ++ wsX10 ++ wsX00 ++ wsX40)
def wsX1_dropOldest : List Cond := .code yX1_dropOldest cX1_dropOldest 3 none :: ([.fieldLink RX1 11 "WheelDesk$History" "states" "[LWheelDesk$Craft;", .fieldLink RX1 18 "WheelDesk$History" "kept" "I"] ++ wsX10)
def wsX1_keep_r1 : List Cond := [Cond.fieldLink RX1 18 "WheelDesk$History" "kept" "I", Cond.fieldLink RX1 11 "WheelDesk$History" "states" "[LWheelDesk$Craft;", Cond.methodLink RX1 22 yX1_dropOldest, Cond.instanceMethod yX1_dropOldest, Cond.selects RX1 yX1_dropOldest yX1_dropOldest, Cond.initialized RX1, Cond.code yX1_dropOldest cX1_dropOldest 3 none, Cond.methodLink RX1 25 yX0_become, Cond.instanceMethod yX0_become, Cond.selects RX0 yX0_become yX0_become, Cond.initialized RX0, Cond.code yX0_become cX0_become 3 none, Cond.fieldLink RX0 47 "WheelDesk$Craft" "now" "I", Cond.fieldLink RX0 9 "WheelDesk$Craft" "settings" "[I", Cond.methodLink RX0 50 arraycopyName, Cond.native arraycopyName, Cond.static arraycopyName, Cond.initialized "java/lang/System", Cond.fieldLink RX0 17 "WheelDesk$Craft" "given" "[[I", Cond.fieldLink RX0 20 "WheelDesk$Craft" "angle" "[J", Cond.fieldLink RX0 24 "WheelDesk$Craft" "momentum" "[J", Cond.fieldLink RX0 27 "WheelDesk$Craft" "outside" "[J", Cond.fieldLink RX0 30 "WheelDesk$Craft" "wished" "[J", Cond.fieldLink RX0 56 "WheelDesk$Craft" "wheelCount" "I"]
def wsX1_keep_r2 : List Cond := [Cond.fieldLink RX0 35 "WheelDesk$Craft" "wheelRow" "[LWheelDesk$Wheel;", Cond.fieldLink RX0 39 "WheelDesk$Craft" "reasons" "[I", Cond.fieldLink RX0 43 "WheelDesk$Craft" "reasonCount" "I", Cond.methodLink RX0 59 yX4_become, Cond.instanceMethod yX4_become, Cond.selects RX4 yX4_become yX4_become, Cond.initialized RX4, Cond.code yX4_become cX4_become 2 none, Cond.fieldLink RX4 9 "WheelDesk$Wheel" "direction" "[I", Cond.methodLink RX4 32 arraycopyName, Cond.fieldLink RX4 15 "WheelDesk$Wheel" "momentum" "I", Cond.fieldLink RX4 19 "WheelDesk$Wheel" "mostMomentum" "I", Cond.fieldLink RX4 22 "WheelDesk$Wheel" "mostTorque" "I", Cond.fieldLink RX4 25 "WheelDesk$Wheel" "failed" "Z", Cond.fieldLink RX4 29 "WheelDesk$Wheel" "got" "I"]
def wsX1_keep : List Cond := .code yX1_keep cX1_keep 2 none :: ((wsX1_keep_r1 ++ wsX1_keep_r2) ++ wsX10 ++ wsX00 ++ wsX40)
def wsX1_giveBack_r1 : List Cond := [Cond.fieldLink RX1 18 "WheelDesk$History" "kept" "I", Cond.constant RX1 29 (-2000009), Cond.fieldLink RX1 11 "WheelDesk$History" "states" "[LWheelDesk$Craft;", Cond.methodLink RX1 25 yX0_become, Cond.instanceMethod yX0_become, Cond.selects RX0 yX0_become yX0_become, Cond.initialized RX0, Cond.code yX0_become cX0_become 3 none, Cond.fieldLink RX0 47 "WheelDesk$Craft" "now" "I", Cond.fieldLink RX0 9 "WheelDesk$Craft" "settings" "[I", Cond.methodLink RX0 50 arraycopyName, Cond.native arraycopyName, Cond.static arraycopyName, Cond.initialized "java/lang/System", Cond.fieldLink RX0 17 "WheelDesk$Craft" "given" "[[I", Cond.fieldLink RX0 20 "WheelDesk$Craft" "angle" "[J", Cond.fieldLink RX0 24 "WheelDesk$Craft" "momentum" "[J", Cond.fieldLink RX0 27 "WheelDesk$Craft" "outside" "[J", Cond.fieldLink RX0 30 "WheelDesk$Craft" "wished" "[J", Cond.fieldLink RX0 56 "WheelDesk$Craft" "wheelCount" "I", Cond.fieldLink RX0 35 "WheelDesk$Craft" "wheelRow" "[LWheelDesk$Wheel;", Cond.fieldLink RX0 39 "WheelDesk$Craft" "reasons" "[I", Cond.fieldLink RX0 43 "WheelDesk$Craft" "reasonCount" "I", Cond.methodLink RX0 59 yX4_become]
def wsX1_giveBack_r2 : List Cond := [Cond.instanceMethod yX4_become, Cond.selects RX4 yX4_become yX4_become, Cond.initialized RX4, Cond.code yX4_become cX4_become 2 none, Cond.fieldLink RX4 9 "WheelDesk$Wheel" "direction" "[I", Cond.methodLink RX4 32 arraycopyName, Cond.fieldLink RX4 15 "WheelDesk$Wheel" "momentum" "I", Cond.fieldLink RX4 19 "WheelDesk$Wheel" "mostMomentum" "I", Cond.fieldLink RX4 22 "WheelDesk$Wheel" "mostTorque" "I", Cond.fieldLink RX4 25 "WheelDesk$Wheel" "failed" "Z", Cond.fieldLink RX4 29 "WheelDesk$Wheel" "got" "I"]
def wsX1_giveBack : List Cond := .code yX1_giveBack cX1_giveBack 2 (some .int) :: ((wsX1_giveBack_r1 ++ wsX1_giveBack_r2) ++ wsX10 ++ wsX00 ++ wsX40)
def wsX2_init : List Cond := .code yX2_init cX2_init 1 none :: ([.methodLink RX2 3 objectInit, .instanceMethod objectInit, .code objectInit ⟨#[0xb1]⟩ 1 none, .arrayClass .long, .fieldLink RX2 9 "WheelDesk$Magnets" "held" "[J", .fieldLink RX2 15 "WheelDesk$Magnets" "moment" "[J"] ++ wsX20)
def wsX5_axisAfter : List Cond := .code yX5_axisAfter cX5_axisAfter 2 (some .int) :: ([])
def wsX2_crossed : List Cond := .code yX2_crossed cX2_crossed 5 (some .long) :: ([.static yX5_axisAfter, .initialized RX5, .code yX5_axisAfter cX5_axisAfter 2 (some .int)])
def wsX2_letGo_r1 : List Cond := [Cond.fieldLink RX2 18 "WheelDesk$Craft" "given" "[[I", Cond.fieldLink RX2 24 "WheelDesk$Craft" "settings" "[I", Cond.fieldLink RX2 9 "WheelDesk$Magnets" "held" "[J", Cond.fieldLink RX2 15 "WheelDesk$Magnets" "moment" "[J", Cond.constantLong RX2 36 (1000), Cond.constantLong RX2 46 (100), Cond.methodLink RX2 28 yX0_wheelMomentum, Cond.instanceMethod yX0_wheelMomentum, Cond.selects RX0 yX0_wheelMomentum yX0_wheelMomentum, Cond.initialized RX0, Cond.code yX0_wheelMomentum cX0_wheelMomentum 5 (some .long), Cond.fieldLink RX0 56 "WheelDesk$Craft" "wheelCount" "I", Cond.fieldLink RX0 35 "WheelDesk$Craft" "wheelRow" "[LWheelDesk$Wheel;", Cond.fieldLink RX0 76 "WheelDesk$Wheel" "direction" "[I", Cond.fieldLink RX0 79 "WheelDesk$Wheel" "momentum" "I", Cond.methodLink RX2 32 yX2_crossed, Cond.static yX2_crossed, Cond.initialized RX2, Cond.code yX2_crossed cX2_crossed 5 (some .long), Cond.static yX5_axisAfter, Cond.initialized RX5, Cond.code yX5_axisAfter cX5_axisAfter 2 (some .int), Cond.static yX5_quotient, Cond.code yX5_quotient cX5_quotient 4 (some .long)]
def wsX2_letGo_r2 : List Cond := [Cond.methodLink RX5 214 yJ9_floorDiv_f86c9, Cond.static yJ9_floorDiv_f86c9, Cond.initialized RJ9, Cond.code yJ9_floorDiv_f86c9 cJ9_floorDiv_f86c9 6 (some .long), Cond.static yX5_limited, Cond.code yX5_limited cX5_limited 6 (some .long), Cond.methodLink RX2 48 yX0_pushFromOutside, Cond.instanceMethod yX0_pushFromOutside, Cond.selects RX0 yX0_pushFromOutside yX0_pushFromOutside, Cond.code yX0_pushFromOutside cX0_pushFromOutside 4 none, Cond.fieldLink RX0 24 "WheelDesk$Craft" "momentum" "[J", Cond.fieldLink RX0 27 "WheelDesk$Craft" "outside" "[J"]
def wsX2_letGo : List Cond := .code yX2_letGo cX2_letGo 6 none :: ((wsX2_letGo_r1 ++ wsX2_letGo_r2) ++ wsX00 ++ wsX20 ++ wsX40)
def wsX3_init : List Cond := .code yX3_init cX3_init 1 none :: ([.methodLink RX3 3 objectInit, .instanceMethod objectInit, .code objectInit ⟨#[0xb1]⟩ 1 none, .classLink RX3 9 "[[J", .arrayClass .long, .fieldLink RX3 11 "WheelDesk$Sharing" "matrix" "[[J", .fieldLink RX3 16 "WheelDesk$Sharing" "cofactor" "[[J", .fieldLink RX3 19 "WheelDesk$Sharing" "aimed" "[J"] ++ wsX30)
def wsX3_addProducts : List Cond := .code yX3_addProducts cX3_addProducts 4 none :: ([.fieldLink RX3 11 "WheelDesk$Sharing" "matrix" "[[J"] ++ wsX30)
def wsX3_findCofactors : List Cond := .code yX3_findCofactors cX3_findCofactors 7 none :: ([.fieldLink RX3 16 "WheelDesk$Sharing" "cofactor" "[[J", .fieldLink RX3 11 "WheelDesk$Sharing" "matrix" "[[J", .static yX5_axisAfter, .initialized RX5, .code yX5_axisAfter cX5_axisAfter 2 (some .int)] ++ wsX30)
def wsX3_measure : List Cond := .code yX3_measure cX3_measure 5 none :: ([.fieldLink RX3 11 "WheelDesk$Sharing" "matrix" "[[J", .fieldLink RX3 23 "WheelDesk$Craft" "wheelCount" "I", .fieldLink RX3 29 "WheelDesk$Craft" "wheelRow" "[LWheelDesk$Wheel;", .fieldLink RX3 33 "WheelDesk$Wheel" "failed" "Z", .fieldLink RX3 39 "WheelDesk$Wheel" "direction" "[I", .fieldLink RX3 50 "WheelDesk$Sharing" "determinant" "J", .fieldLink RX3 16 "WheelDesk$Sharing" "cofactor" "[[J", .methodLink RX3 43 yX3_addProducts, .instanceMethod yX3_addProducts, .selects RX3 yX3_addProducts yX3_addProducts, .initialized RX3, .code yX3_addProducts cX3_addProducts 4 none, .methodLink RX3 47 yX3_findCofactors, .instanceMethod yX3_findCofactors, .selects RX3 yX3_findCofactors yX3_findCofactors, .code yX3_findCofactors cX3_findCofactors 7 none, .static yX5_axisAfter, .initialized RX5, .code yX5_axisAfter cX5_axisAfter 2 (some .int)] ++ wsX30 ++ wsX00 ++ wsX40)
def wsX3_spans : List Cond := .code yX3_spans cX3_spans 1 (some .boolean) :: ([.fieldLink RX3 50 "WheelDesk$Sharing" "determinant" "J"] ++ wsX30)
def wsX3_aim : List Cond := .code yX3_aim cX3_aim 8 none :: ([.fieldLink RX3 19 "WheelDesk$Sharing" "aimed" "[J", .fieldLink RX3 16 "WheelDesk$Sharing" "cofactor" "[[J"] ++ wsX30)
def wsX3_wishOf : List Cond := .code yX3_wishOf cX3_wishOf 5 (some .long) :: ([.fieldLink RX3 39 "WheelDesk$Wheel" "direction" "[I", .fieldLink RX3 19 "WheelDesk$Sharing" "aimed" "[J", .fieldLink RX3 50 "WheelDesk$Sharing" "determinant" "J", .constantLong RX3 62 (2), .methodLink RX3 58 yX3_spans, .instanceMethod yX3_spans, .selects RX3 yX3_spans yX3_spans, .initialized RX3, .code yX3_spans cX3_spans 1 (some .boolean), .methodLink RX3 64 yJ9_floorDiv_f86c9, .static yJ9_floorDiv_f86c9, .initialized RJ9, .code yJ9_floorDiv_f86c9 cJ9_floorDiv_f86c9 6 (some .long)] ++ wsX40 ++ wsX30)
def wsX4_allowedByTorque : List Cond := .code yX4_allowedByTorque cX4_allowedByTorque 3 (some .long) :: ([.fieldLink RX4 22 "WheelDesk$Wheel" "mostTorque" "I", .static yX5_limited, .initialized RX5, .code yX5_limited cX5_limited 6 (some .long)] ++ wsX40)
def wsX4_allowedByMomentum : List Cond := .code yX4_allowedByMomentum cX4_allowedByMomentum 7 (some .long) :: ([.fieldLink RX4 19 "WheelDesk$Wheel" "mostMomentum" "I", .fieldLink RX4 15 "WheelDesk$Wheel" "momentum" "I", .methodLink RX4 42 Lib.Math.min.name, .static Lib.Math.min.name, .initialized "java/lang/Math", .code Lib.Math.min.name Lib.Math.min.code 2 (some .int), .methodLink RX4 48 Lib.Math.max.name, .static Lib.Math.max.name, .code Lib.Math.max.name Lib.Math.max.code 2 (some .int), .static yX5_limited, .initialized RX5, .code yX5_limited cX5_limited 6 (some .long)] ++ wsX40)
def wsX3_give_r1 : List Cond := [Cond.fieldLink RX3 29 "WheelDesk$Craft" "wheelRow" "[LWheelDesk$Wheel;", Cond.fieldLink RX3 70 "WheelDesk$Wheel" "got" "I", Cond.fieldLink RX3 101 "WheelDesk$Wheel" "momentum" "I", Cond.fieldLink RX3 104 "WheelDesk$Craft" "momentum" "[J", Cond.fieldLink RX3 39 "WheelDesk$Wheel" "direction" "[I", Cond.methodLink RX3 90 yX3_wishOf, Cond.instanceMethod yX3_wishOf, Cond.selects RX3 yX3_wishOf yX3_wishOf, Cond.initialized RX3, Cond.code yX3_wishOf cX3_wishOf 5 (some .long), Cond.fieldLink RX3 19 "WheelDesk$Sharing" "aimed" "[J", Cond.fieldLink RX3 50 "WheelDesk$Sharing" "determinant" "J", Cond.constantLong RX3 62 (2), Cond.methodLink RX3 58 yX3_spans, Cond.instanceMethod yX3_spans, Cond.selects RX3 yX3_spans yX3_spans, Cond.code yX3_spans cX3_spans 1 (some .boolean), Cond.methodLink RX3 64 yJ9_floorDiv_f86c9, Cond.static yJ9_floorDiv_f86c9, Cond.initialized RJ9, Cond.code yJ9_floorDiv_f86c9 cJ9_floorDiv_f86c9 6 (some .long), Cond.methodLink RX3 94 yX4_allowedByTorque, Cond.instanceMethod yX4_allowedByTorque, Cond.selects RX4 yX4_allowedByTorque yX4_allowedByTorque]
def wsX3_give_r2 : List Cond := [Cond.initialized RX4, Cond.code yX4_allowedByTorque cX4_allowedByTorque 3 (some .long), Cond.fieldLink RX4 22 "WheelDesk$Wheel" "mostTorque" "I", Cond.static yX5_limited, Cond.initialized RX5, Cond.code yX5_limited cX5_limited 6 (some .long), Cond.methodLink RX3 98 yX4_allowedByMomentum, Cond.instanceMethod yX4_allowedByMomentum, Cond.selects RX4 yX4_allowedByMomentum yX4_allowedByMomentum, Cond.code yX4_allowedByMomentum cX4_allowedByMomentum 7 (some .long), Cond.fieldLink RX4 19 "WheelDesk$Wheel" "mostMomentum" "I", Cond.fieldLink RX4 15 "WheelDesk$Wheel" "momentum" "I", Cond.methodLink RX4 42 Lib.Math.min.name, Cond.static Lib.Math.min.name, Cond.initialized "java/lang/Math", Cond.code Lib.Math.min.name Lib.Math.min.code 2 (some .int), Cond.methodLink RX4 48 Lib.Math.max.name, Cond.static Lib.Math.max.name, Cond.code Lib.Math.max.name Lib.Math.max.code 2 (some .int), Cond.methodLink RX3 106 yX0_isMet, Cond.instanceMethod yX0_isMet, Cond.selects RX0 yX0_isMet yX0_isMet, Cond.initialized RX0, Cond.code yX0_isMet cX0_isMet 1 (some .boolean)]
def wsX3_give_r3 : List Cond := [Cond.fieldLink RX0 39 "WheelDesk$Craft" "reasons" "[I", Cond.methodLink RX3 109 yX0_tellLimited, Cond.instanceMethod yX0_tellLimited, Cond.selects RX0 yX0_tellLimited yX0_tellLimited, Cond.code yX0_tellLimited cX0_tellLimited 3 none, Cond.fieldLink RX0 43 "WheelDesk$Craft" "reasonCount" "I"]
def wsX3_give : List Cond := .code yX3_give cX3_give 11 none :: ((wsX3_give_r1 ++ (wsX3_give_r2 ++ wsX3_give_r3)) ++ wsX00 ++ wsX40 ++ wsX30)
def wsX3_share_r1 : List Cond := [Cond.fieldLink RX3 23 "WheelDesk$Craft" "wheelCount" "I", Cond.fieldLink RX3 29 "WheelDesk$Craft" "wheelRow" "[LWheelDesk$Wheel;", Cond.fieldLink RX3 70 "WheelDesk$Wheel" "got" "I", Cond.fieldLink RX3 79 "WheelDesk$Craft" "wished" "[J", Cond.fieldLink RX3 33 "WheelDesk$Wheel" "failed" "Z", Cond.methodLink RX3 58 yX3_spans, Cond.instanceMethod yX3_spans, Cond.selects RX3 yX3_spans yX3_spans, Cond.initialized RX3, Cond.code yX3_spans cX3_spans 1 (some .boolean), Cond.fieldLink RX3 50 "WheelDesk$Sharing" "determinant" "J", Cond.methodLink RX3 73 yX0_tellNoSpan, Cond.instanceMethod yX0_tellNoSpan, Cond.selects RX0 yX0_tellNoSpan yX0_tellNoSpan, Cond.initialized RX0, Cond.code yX0_tellNoSpan cX0_tellNoSpan 2 none, Cond.fieldLink RX0 39 "WheelDesk$Craft" "reasons" "[I", Cond.fieldLink RX0 43 "WheelDesk$Craft" "reasonCount" "I", Cond.fieldLink RX0 56 "WheelDesk$Craft" "wheelCount" "I", Cond.fieldLink RX0 35 "WheelDesk$Craft" "wheelRow" "[LWheelDesk$Wheel;", Cond.fieldLink RX0 100 "WheelDesk$Wheel" "failed" "Z", Cond.methodLink RX3 76 yX0_tellMet, Cond.instanceMethod yX0_tellMet, Cond.selects RX0 yX0_tellMet yX0_tellMet]
def wsX3_share_r2 : List Cond := [Cond.code yX0_tellMet cX0_tellMet 1 none, Cond.methodLink RX3 82 yX3_aim, Cond.instanceMethod yX3_aim, Cond.selects RX3 yX3_aim yX3_aim, Cond.code yX3_aim cX3_aim 8 none, Cond.fieldLink RX3 19 "WheelDesk$Sharing" "aimed" "[J", Cond.fieldLink RX3 16 "WheelDesk$Sharing" "cofactor" "[[J", Cond.methodLink RX3 86 yX3_give, Cond.instanceMethod yX3_give, Cond.selects RX3 yX3_give yX3_give, Cond.code yX3_give cX3_give 11 none, Cond.fieldLink RX3 101 "WheelDesk$Wheel" "momentum" "I", Cond.fieldLink RX3 104 "WheelDesk$Craft" "momentum" "[J", Cond.fieldLink RX3 39 "WheelDesk$Wheel" "direction" "[I", Cond.methodLink RX3 90 yX3_wishOf, Cond.instanceMethod yX3_wishOf, Cond.selects RX3 yX3_wishOf yX3_wishOf, Cond.code yX3_wishOf cX3_wishOf 5 (some .long), Cond.constantLong RX3 62 (2), Cond.methodLink RX3 64 yJ9_floorDiv_f86c9, Cond.static yJ9_floorDiv_f86c9, Cond.initialized RJ9, Cond.code yJ9_floorDiv_f86c9 cJ9_floorDiv_f86c9 6 (some .long), Cond.methodLink RX3 94 yX4_allowedByTorque]
def wsX3_share_r3 : List Cond := [Cond.instanceMethod yX4_allowedByTorque, Cond.selects RX4 yX4_allowedByTorque yX4_allowedByTorque, Cond.initialized RX4, Cond.code yX4_allowedByTorque cX4_allowedByTorque 3 (some .long), Cond.fieldLink RX4 22 "WheelDesk$Wheel" "mostTorque" "I", Cond.static yX5_limited, Cond.initialized RX5, Cond.code yX5_limited cX5_limited 6 (some .long), Cond.methodLink RX3 98 yX4_allowedByMomentum, Cond.instanceMethod yX4_allowedByMomentum, Cond.selects RX4 yX4_allowedByMomentum yX4_allowedByMomentum, Cond.code yX4_allowedByMomentum cX4_allowedByMomentum 7 (some .long), Cond.fieldLink RX4 19 "WheelDesk$Wheel" "mostMomentum" "I", Cond.fieldLink RX4 15 "WheelDesk$Wheel" "momentum" "I", Cond.methodLink RX4 42 Lib.Math.min.name, Cond.static Lib.Math.min.name, Cond.initialized "java/lang/Math", Cond.code Lib.Math.min.name Lib.Math.min.code 2 (some .int), Cond.methodLink RX4 48 Lib.Math.max.name, Cond.static Lib.Math.max.name, Cond.code Lib.Math.max.name Lib.Math.max.code 2 (some .int), Cond.methodLink RX3 106 yX0_isMet, Cond.instanceMethod yX0_isMet, Cond.selects RX0 yX0_isMet yX0_isMet]
def wsX3_share_r4 : List Cond := [Cond.code yX0_isMet cX0_isMet 1 (some .boolean), Cond.methodLink RX3 109 yX0_tellLimited, Cond.instanceMethod yX0_tellLimited, Cond.selects RX0 yX0_tellLimited yX0_tellLimited, Cond.code yX0_tellLimited cX0_tellLimited 3 none]
def wsX3_share : List Cond := .code yX3_share cX3_share 3 none :: ((wsX3_share_r1 ++ (wsX3_share_r2 ++ (wsX3_share_r3 ++ wsX3_share_r4))) ++ wsX00 ++ wsX40 ++ wsX30)
def wsX4_start : List Cond := .code yX4_start cX4_start 6 none :: ([.fieldLink RX4 9 "WheelDesk$Wheel" "direction" "[I", .fieldLink RX4 15 "WheelDesk$Wheel" "momentum" "I", .fieldLink RX4 19 "WheelDesk$Wheel" "mostMomentum" "I", .fieldLink RX4 22 "WheelDesk$Wheel" "mostTorque" "I", .fieldLink RX4 25 "WheelDesk$Wheel" "failed" "Z", .fieldLink RX4 29 "WheelDesk$Wheel" "got" "I"] ++ wsX40)
def wsX4_number : List Cond := .code yX4_number cX4_number 2 (some .int) :: ([.fieldLink RX4 9 "WheelDesk$Wheel" "direction" "[I", .fieldLink RX4 15 "WheelDesk$Wheel" "momentum" "I", .fieldLink RX4 19 "WheelDesk$Wheel" "mostMomentum" "I", .fieldLink RX4 22 "WheelDesk$Wheel" "mostTorque" "I", .fieldLink RX4 25 "WheelDesk$Wheel" "failed" "Z", .fieldLink RX4 29 "WheelDesk$Wheel" "got" "I"] ++ wsX40)
def wsX4_fullPart : List Cond := .code yX4_fullPart cX4_fullPart 2 (some .float) :: ([.fieldLink RX4 19 "WheelDesk$Wheel" "mostMomentum" "I", .fieldLink RX4 15 "WheelDesk$Wheel" "momentum" "I", .methodLink RX4 51 Lib.Math.abs.name, .static Lib.Math.abs.name, .initialized "java/lang/Math", .code Lib.Math.abs.name Lib.Math.abs.code 1 (some .int)] ++ wsX40)
def wsX5_init_r1 : List Cond := [Cond.methodLink RX5 1 objectInit, Cond.instanceMethod objectInit, Cond.code objectInit ⟨#[0xb1]⟩ 1 none, Cond.classLink RX5 7 RX0, Cond.instantiable RX0 11, Cond.initialized RX0, Cond.fieldLink RX5 10 "WheelDesk" "craft" "LWheelDesk$Craft;", Cond.fieldLink RX5 16 "WheelDesk" "trial" "LWheelDesk$Craft;", Cond.classLink RX5 19 RX3, Cond.instantiable RX3 4, Cond.initialized RX3, Cond.fieldLink RX5 22 "WheelDesk" "sharing" "LWheelDesk$Sharing;", Cond.classLink RX5 26 RX2, Cond.instantiable RX2 2, Cond.initialized RX2, Cond.fieldLink RX5 29 "WheelDesk" "magnets" "LWheelDesk$Magnets;", Cond.classLink RX5 33 RX1, Cond.instantiable RX1 2, Cond.initialized RX1, Cond.fieldLink RX5 36 "WheelDesk" "history" "LWheelDesk$History;", Cond.methodLink RX5 9 yX0_init, Cond.instanceMethod yX0_init, Cond.code yX0_init cX0_init 2 none, Cond.methodLink RX0 3 objectInit]
def wsX5_init_r2 : List Cond := [Cond.arrayClass .int, Cond.fieldLink RX0 9 "WheelDesk$Craft" "settings" "[I", Cond.classLink RX0 15 "[[I", Cond.fieldLink RX0 17 "WheelDesk$Craft" "given" "[[I", Cond.arrayClass .long, Cond.fieldLink RX0 20 "WheelDesk$Craft" "angle" "[J", Cond.fieldLink RX0 24 "WheelDesk$Craft" "momentum" "[J", Cond.fieldLink RX0 27 "WheelDesk$Craft" "outside" "[J", Cond.fieldLink RX0 30 "WheelDesk$Craft" "wished" "[J", Cond.classLink RX0 33 RX4, Cond.fieldLink RX0 35 "WheelDesk$Craft" "wheelRow" "[LWheelDesk$Wheel;", Cond.fieldLink RX0 39 "WheelDesk$Craft" "reasons" "[I", Cond.instantiable RX4 6, Cond.initialized RX4, Cond.fieldLink RX0 43 "WheelDesk$Craft" "reasonCount" "I", Cond.instanceMethod yX4_init, Cond.code yX4_init cX4_init 1 none, Cond.methodLink RX4 3 objectInit, Cond.fieldLink RX4 9 "WheelDesk$Wheel" "direction" "[I", Cond.instanceMethod yX3_init, Cond.code yX3_init cX3_init 1 none, Cond.methodLink RX3 3 objectInit, Cond.classLink RX3 9 "[[J", Cond.fieldLink RX3 11 "WheelDesk$Sharing" "matrix" "[[J"]
def wsX5_init_r3 : List Cond := [Cond.fieldLink RX3 16 "WheelDesk$Sharing" "cofactor" "[[J", Cond.fieldLink RX3 19 "WheelDesk$Sharing" "aimed" "[J", Cond.instanceMethod yX2_init, Cond.code yX2_init cX2_init 1 none, Cond.methodLink RX2 3 objectInit, Cond.fieldLink RX2 9 "WheelDesk$Magnets" "held" "[J", Cond.fieldLink RX2 15 "WheelDesk$Magnets" "moment" "[J", Cond.methodLink RX5 35 yX1_init, Cond.instanceMethod yX1_init, Cond.code yX1_init cX1_init 2 none, Cond.methodLink RX1 3 objectInit, Cond.classLink RX1 9 RX0, Cond.fieldLink RX1 11 "WheelDesk$History" "states" "[LWheelDesk$Craft;", Cond.methodLink RX1 17 yX0_init]
def wsX5_init : List Cond := .code yX5_init cX5_init 1 none :: ((wsX5_init_r1 ++ (wsX5_init_r2 ++ wsX5_init_r3)) ++ wsX00 ++ wsX50 ++ wsX30 ++ wsX20 ++ wsX10 ++ wsX40)
def wsX5_isWithin : List Cond := .code yX5_isWithin cX5_isWithin 3 (some .boolean) :: ([])
def wsX5_isDirection : List Cond := .code yX5_isDirection cX5_isDirection 3 (some .boolean) :: ([.methodLink RX5 45 yX5_isWithin, .static yX5_isWithin, .initialized RX5, .code yX5_isWithin cX5_isWithin 3 (some .boolean)])
def wsX5_addWheel_r1 : List Cond := [Cond.constant RX5 44 (1000000), Cond.constant RX5 48 (100000), Cond.constant RX5 49 (-2000001), Cond.fieldLink RX5 10 "WheelDesk" "craft" "LWheelDesk$Craft;", Cond.fieldLink RX5 50 "WheelDesk$Craft" "wheelCount" "I", Cond.constant RX5 54 (-2000003), Cond.fieldLink RX5 36 "WheelDesk" "history" "LWheelDesk$History;", Cond.fieldLink RX5 59 "WheelDesk$Craft" "wheelRow" "[LWheelDesk$Wheel;", Cond.methodLink RX5 40 yX5_isDirection, Cond.static yX5_isDirection, Cond.initialized RX5, Cond.code yX5_isDirection cX5_isDirection 3 (some .boolean), Cond.methodLink RX5 45 yX5_isWithin, Cond.static yX5_isWithin, Cond.code yX5_isWithin cX5_isWithin 3 (some .boolean), Cond.methodLink RX5 55 yX1_keep, Cond.instanceMethod yX1_keep, Cond.selects RX1 yX1_keep yX1_keep, Cond.initialized RX1, Cond.code yX1_keep cX1_keep 2 none, Cond.fieldLink RX1 18 "WheelDesk$History" "kept" "I", Cond.fieldLink RX1 11 "WheelDesk$History" "states" "[LWheelDesk$Craft;", Cond.methodLink RX1 22 yX1_dropOldest, Cond.instanceMethod yX1_dropOldest]
def wsX5_addWheel_r2 : List Cond := [Cond.selects RX1 yX1_dropOldest yX1_dropOldest, Cond.code yX1_dropOldest cX1_dropOldest 3 none, Cond.methodLink RX1 25 yX0_become, Cond.instanceMethod yX0_become, Cond.selects RX0 yX0_become yX0_become, Cond.initialized RX0, Cond.code yX0_become cX0_become 3 none, Cond.fieldLink RX0 47 "WheelDesk$Craft" "now" "I", Cond.fieldLink RX0 9 "WheelDesk$Craft" "settings" "[I", Cond.methodLink RX0 50 arraycopyName, Cond.native arraycopyName, Cond.static arraycopyName, Cond.initialized "java/lang/System", Cond.fieldLink RX0 17 "WheelDesk$Craft" "given" "[[I", Cond.fieldLink RX0 20 "WheelDesk$Craft" "angle" "[J", Cond.fieldLink RX0 24 "WheelDesk$Craft" "momentum" "[J", Cond.fieldLink RX0 27 "WheelDesk$Craft" "outside" "[J", Cond.fieldLink RX0 30 "WheelDesk$Craft" "wished" "[J", Cond.fieldLink RX0 56 "WheelDesk$Craft" "wheelCount" "I", Cond.fieldLink RX0 35 "WheelDesk$Craft" "wheelRow" "[LWheelDesk$Wheel;", Cond.fieldLink RX0 39 "WheelDesk$Craft" "reasons" "[I", Cond.fieldLink RX0 43 "WheelDesk$Craft" "reasonCount" "I", Cond.methodLink RX0 59 yX4_become, Cond.instanceMethod yX4_become]
def wsX5_addWheel_r3 : List Cond := [Cond.selects RX4 yX4_become yX4_become, Cond.initialized RX4, Cond.code yX4_become cX4_become 2 none, Cond.fieldLink RX4 9 "WheelDesk$Wheel" "direction" "[I", Cond.methodLink RX4 32 arraycopyName, Cond.fieldLink RX4 15 "WheelDesk$Wheel" "momentum" "I", Cond.fieldLink RX4 19 "WheelDesk$Wheel" "mostMomentum" "I", Cond.fieldLink RX4 22 "WheelDesk$Wheel" "mostTorque" "I", Cond.fieldLink RX4 25 "WheelDesk$Wheel" "failed" "Z", Cond.fieldLink RX4 29 "WheelDesk$Wheel" "got" "I", Cond.methodLink RX5 63 yX4_start, Cond.instanceMethod yX4_start, Cond.selects RX4 yX4_start yX4_start, Cond.code yX4_start cX4_start 6 none]
def wsX5_addWheel : List Cond := .code yX5_addWheel cX5_addWheel 7 (some .int) :: ((wsX5_addWheel_r1 ++ (wsX5_addWheel_r2 ++ wsX5_addWheel_r3)) ++ wsX50 ++ wsX00 ++ wsX10 ++ wsX40)
def wsX5_isWheel : List Cond := .code yX5_isWheel cX5_isWheel 2 (some .boolean) :: ([.fieldLink RX5 10 "WheelDesk" "craft" "LWheelDesk$Craft;", .fieldLink RX5 50 "WheelDesk$Craft" "wheelCount" "I", .methodLink RX5 45 yX5_isWithin, .static yX5_isWithin, .initialized RX5, .code yX5_isWithin cX5_isWithin 3 (some .boolean)] ++ wsX50 ++ wsX00)
def wsX5_fail_r1 : List Cond := [Cond.constant RX5 49 (-2000001), Cond.fieldLink RX5 36 "WheelDesk" "history" "LWheelDesk$History;", Cond.fieldLink RX5 10 "WheelDesk" "craft" "LWheelDesk$Craft;", Cond.fieldLink RX5 59 "WheelDesk$Craft" "wheelRow" "[LWheelDesk$Wheel;", Cond.fieldLink RX5 73 "WheelDesk$Wheel" "failed" "Z", Cond.methodLink RX5 69 yX5_isWheel, Cond.instanceMethod yX5_isWheel, Cond.selects RX5 yX5_isWheel yX5_isWheel, Cond.initialized RX5, Cond.code yX5_isWheel cX5_isWheel 2 (some .boolean), Cond.fieldLink RX5 50 "WheelDesk$Craft" "wheelCount" "I", Cond.methodLink RX5 45 yX5_isWithin, Cond.static yX5_isWithin, Cond.code yX5_isWithin cX5_isWithin 3 (some .boolean), Cond.methodLink RX5 55 yX1_keep, Cond.instanceMethod yX1_keep, Cond.selects RX1 yX1_keep yX1_keep, Cond.initialized RX1, Cond.code yX1_keep cX1_keep 2 none, Cond.fieldLink RX1 18 "WheelDesk$History" "kept" "I", Cond.fieldLink RX1 11 "WheelDesk$History" "states" "[LWheelDesk$Craft;", Cond.methodLink RX1 22 yX1_dropOldest, Cond.instanceMethod yX1_dropOldest, Cond.selects RX1 yX1_dropOldest yX1_dropOldest]
def wsX5_fail_r2 : List Cond := [Cond.code yX1_dropOldest cX1_dropOldest 3 none, Cond.methodLink RX1 25 yX0_become, Cond.instanceMethod yX0_become, Cond.selects RX0 yX0_become yX0_become, Cond.initialized RX0, Cond.code yX0_become cX0_become 3 none, Cond.fieldLink RX0 47 "WheelDesk$Craft" "now" "I", Cond.fieldLink RX0 9 "WheelDesk$Craft" "settings" "[I", Cond.methodLink RX0 50 arraycopyName, Cond.native arraycopyName, Cond.static arraycopyName, Cond.initialized "java/lang/System", Cond.fieldLink RX0 17 "WheelDesk$Craft" "given" "[[I", Cond.fieldLink RX0 20 "WheelDesk$Craft" "angle" "[J", Cond.fieldLink RX0 24 "WheelDesk$Craft" "momentum" "[J", Cond.fieldLink RX0 27 "WheelDesk$Craft" "outside" "[J", Cond.fieldLink RX0 30 "WheelDesk$Craft" "wished" "[J", Cond.fieldLink RX0 56 "WheelDesk$Craft" "wheelCount" "I", Cond.fieldLink RX0 35 "WheelDesk$Craft" "wheelRow" "[LWheelDesk$Wheel;", Cond.fieldLink RX0 39 "WheelDesk$Craft" "reasons" "[I", Cond.fieldLink RX0 43 "WheelDesk$Craft" "reasonCount" "I", Cond.methodLink RX0 59 yX4_become, Cond.instanceMethod yX4_become, Cond.selects RX4 yX4_become yX4_become]
def wsX5_fail_r3 : List Cond := [Cond.initialized RX4, Cond.code yX4_become cX4_become 2 none, Cond.fieldLink RX4 9 "WheelDesk$Wheel" "direction" "[I", Cond.methodLink RX4 32 arraycopyName, Cond.fieldLink RX4 15 "WheelDesk$Wheel" "momentum" "I", Cond.fieldLink RX4 19 "WheelDesk$Wheel" "mostMomentum" "I", Cond.fieldLink RX4 22 "WheelDesk$Wheel" "mostTorque" "I", Cond.fieldLink RX4 25 "WheelDesk$Wheel" "failed" "Z", Cond.fieldLink RX4 29 "WheelDesk$Wheel" "got" "I"]
def wsX5_fail : List Cond := .code yX5_fail cX5_fail 5 (some .int) :: ((wsX5_fail_r1 ++ (wsX5_fail_r2 ++ wsX5_fail_r3)) ++ wsX50 ++ wsX00 ++ wsX40 ++ wsX10)
def wsX5_setMost_r1 : List Cond := [Cond.constant RX5 48 (100000), Cond.constant RX5 44 (1000000), Cond.constant RX5 49 (-2000001), Cond.fieldLink RX5 36 "WheelDesk" "history" "LWheelDesk$History;", Cond.fieldLink RX5 10 "WheelDesk" "craft" "LWheelDesk$Craft;", Cond.fieldLink RX5 59 "WheelDesk$Craft" "wheelRow" "[LWheelDesk$Wheel;", Cond.fieldLink RX5 77 "WheelDesk$Wheel" "mostTorque" "I", Cond.fieldLink RX5 80 "WheelDesk$Wheel" "mostMomentum" "I", Cond.methodLink RX5 69 yX5_isWheel, Cond.instanceMethod yX5_isWheel, Cond.selects RX5 yX5_isWheel yX5_isWheel, Cond.initialized RX5, Cond.code yX5_isWheel cX5_isWheel 2 (some .boolean), Cond.fieldLink RX5 50 "WheelDesk$Craft" "wheelCount" "I", Cond.methodLink RX5 45 yX5_isWithin, Cond.static yX5_isWithin, Cond.code yX5_isWithin cX5_isWithin 3 (some .boolean), Cond.methodLink RX5 55 yX1_keep, Cond.instanceMethod yX1_keep, Cond.selects RX1 yX1_keep yX1_keep, Cond.initialized RX1, Cond.code yX1_keep cX1_keep 2 none, Cond.fieldLink RX1 18 "WheelDesk$History" "kept" "I", Cond.fieldLink RX1 11 "WheelDesk$History" "states" "[LWheelDesk$Craft;"]
def wsX5_setMost_r2 : List Cond := [Cond.methodLink RX1 22 yX1_dropOldest, Cond.instanceMethod yX1_dropOldest, Cond.selects RX1 yX1_dropOldest yX1_dropOldest, Cond.code yX1_dropOldest cX1_dropOldest 3 none, Cond.methodLink RX1 25 yX0_become, Cond.instanceMethod yX0_become, Cond.selects RX0 yX0_become yX0_become, Cond.initialized RX0, Cond.code yX0_become cX0_become 3 none, Cond.fieldLink RX0 47 "WheelDesk$Craft" "now" "I", Cond.fieldLink RX0 9 "WheelDesk$Craft" "settings" "[I", Cond.methodLink RX0 50 arraycopyName, Cond.native arraycopyName, Cond.static arraycopyName, Cond.initialized "java/lang/System", Cond.fieldLink RX0 17 "WheelDesk$Craft" "given" "[[I", Cond.fieldLink RX0 20 "WheelDesk$Craft" "angle" "[J", Cond.fieldLink RX0 24 "WheelDesk$Craft" "momentum" "[J", Cond.fieldLink RX0 27 "WheelDesk$Craft" "outside" "[J", Cond.fieldLink RX0 30 "WheelDesk$Craft" "wished" "[J", Cond.fieldLink RX0 56 "WheelDesk$Craft" "wheelCount" "I", Cond.fieldLink RX0 35 "WheelDesk$Craft" "wheelRow" "[LWheelDesk$Wheel;", Cond.fieldLink RX0 39 "WheelDesk$Craft" "reasons" "[I", Cond.fieldLink RX0 43 "WheelDesk$Craft" "reasonCount" "I"]
def wsX5_setMost_r3 : List Cond := [Cond.methodLink RX0 59 yX4_become, Cond.instanceMethod yX4_become, Cond.selects RX4 yX4_become yX4_become, Cond.initialized RX4, Cond.code yX4_become cX4_become 2 none, Cond.fieldLink RX4 9 "WheelDesk$Wheel" "direction" "[I", Cond.methodLink RX4 32 arraycopyName, Cond.fieldLink RX4 15 "WheelDesk$Wheel" "momentum" "I", Cond.fieldLink RX4 19 "WheelDesk$Wheel" "mostMomentum" "I", Cond.fieldLink RX4 22 "WheelDesk$Wheel" "mostTorque" "I", Cond.fieldLink RX4 25 "WheelDesk$Wheel" "failed" "Z", Cond.fieldLink RX4 29 "WheelDesk$Wheel" "got" "I"]
def wsX5_setMost : List Cond := .code yX5_setMost cX5_setMost 6 (some .int) :: ((wsX5_setMost_r1 ++ (wsX5_setMost_r2 ++ wsX5_setMost_r3)) ++ wsX50 ++ wsX00 ++ wsX40 ++ wsX10)
def wsX5_wheel : List Cond := .code yX5_wheel cX5_wheel 3 (some .int) :: ([.constant RX5 49 (-2000001), .fieldLink RX5 10 "WheelDesk" "craft" "LWheelDesk$Craft;", .fieldLink RX5 59 "WheelDesk$Craft" "wheelRow" "[LWheelDesk$Wheel;", .methodLink RX5 69 yX5_isWheel, .instanceMethod yX5_isWheel, .selects RX5 yX5_isWheel yX5_isWheel, .initialized RX5, .code yX5_isWheel cX5_isWheel 2 (some .boolean), .fieldLink RX5 50 "WheelDesk$Craft" "wheelCount" "I", .methodLink RX5 45 yX5_isWithin, .static yX5_isWithin, .code yX5_isWithin cX5_isWithin 3 (some .boolean), .methodLink RX5 83 yX4_number, .instanceMethod yX4_number, .selects RX4 yX4_number yX4_number, .initialized RX4, .code yX4_number cX4_number 2 (some .int), .fieldLink RX4 9 "WheelDesk$Wheel" "direction" "[I", .fieldLink RX4 15 "WheelDesk$Wheel" "momentum" "I", .fieldLink RX4 19 "WheelDesk$Wheel" "mostMomentum" "I", .fieldLink RX4 22 "WheelDesk$Wheel" "mostTorque" "I", .fieldLink RX4 25 "WheelDesk$Wheel" "failed" "Z", .fieldLink RX4 29 "WheelDesk$Wheel" "got" "I"] ++ wsX50 ++ wsX00 ++ wsX40)
def wsX5_wheels : List Cond := .code yX5_wheels cX5_wheels 1 (some .int) :: ([.fieldLink RX5 10 "WheelDesk" "craft" "LWheelDesk$Craft;", .fieldLink RX5 50 "WheelDesk$Craft" "wheelCount" "I"] ++ wsX50 ++ wsX00)
def wsX5_isAxis : List Cond := .code yX5_isAxis cX5_isAxis 1 (some .boolean) :: ([.methodLink RX5 45 yX5_isWithin, .static yX5_isWithin, .initialized RX5, .code yX5_isWithin cX5_isWithin 3 (some .boolean)])
def wsX5_setAxis_r1 : List Cond := [Cond.fieldLink RX5 90 "WheelDesk" "LEAST_GIVEN" "[I", Cond.fieldLink RX5 94 "WheelDesk" "GREATEST_GIVEN" "[I", Cond.constant RX5 49 (-2000001), Cond.fieldLink RX5 36 "WheelDesk" "history" "LWheelDesk$History;", Cond.fieldLink RX5 10 "WheelDesk" "craft" "LWheelDesk$Craft;", Cond.fieldLink RX5 97 "WheelDesk$Craft" "given" "[[I", Cond.methodLink RX5 87 yX5_isAxis, Cond.static yX5_isAxis, Cond.initialized RX5, Cond.code yX5_isAxis cX5_isAxis 1 (some .boolean), Cond.methodLink RX5 45 yX5_isWithin, Cond.static yX5_isWithin, Cond.code yX5_isWithin cX5_isWithin 3 (some .boolean), Cond.methodLink RX5 55 yX1_keep, Cond.instanceMethod yX1_keep, Cond.selects RX1 yX1_keep yX1_keep, Cond.initialized RX1, Cond.code yX1_keep cX1_keep 2 none, Cond.fieldLink RX1 18 "WheelDesk$History" "kept" "I", Cond.fieldLink RX1 11 "WheelDesk$History" "states" "[LWheelDesk$Craft;", Cond.methodLink RX1 22 yX1_dropOldest, Cond.instanceMethod yX1_dropOldest, Cond.selects RX1 yX1_dropOldest yX1_dropOldest, Cond.code yX1_dropOldest cX1_dropOldest 3 none]
def wsX5_setAxis_r2 : List Cond := [Cond.methodLink RX1 25 yX0_become, Cond.instanceMethod yX0_become, Cond.selects RX0 yX0_become yX0_become, Cond.initialized RX0, Cond.code yX0_become cX0_become 3 none, Cond.fieldLink RX0 47 "WheelDesk$Craft" "now" "I", Cond.fieldLink RX0 9 "WheelDesk$Craft" "settings" "[I", Cond.methodLink RX0 50 arraycopyName, Cond.native arraycopyName, Cond.static arraycopyName, Cond.initialized "java/lang/System", Cond.fieldLink RX0 17 "WheelDesk$Craft" "given" "[[I", Cond.fieldLink RX0 20 "WheelDesk$Craft" "angle" "[J", Cond.fieldLink RX0 24 "WheelDesk$Craft" "momentum" "[J", Cond.fieldLink RX0 27 "WheelDesk$Craft" "outside" "[J", Cond.fieldLink RX0 30 "WheelDesk$Craft" "wished" "[J", Cond.fieldLink RX0 56 "WheelDesk$Craft" "wheelCount" "I", Cond.fieldLink RX0 35 "WheelDesk$Craft" "wheelRow" "[LWheelDesk$Wheel;", Cond.fieldLink RX0 39 "WheelDesk$Craft" "reasons" "[I", Cond.fieldLink RX0 43 "WheelDesk$Craft" "reasonCount" "I", Cond.methodLink RX0 59 yX4_become, Cond.instanceMethod yX4_become, Cond.selects RX4 yX4_become yX4_become, Cond.initialized RX4]
def wsX5_setAxis_r3 : List Cond := [Cond.code yX4_become cX4_become 2 none, Cond.fieldLink RX4 9 "WheelDesk$Wheel" "direction" "[I", Cond.methodLink RX4 32 arraycopyName, Cond.fieldLink RX4 15 "WheelDesk$Wheel" "momentum" "I", Cond.fieldLink RX4 19 "WheelDesk$Wheel" "mostMomentum" "I", Cond.fieldLink RX4 22 "WheelDesk$Wheel" "mostTorque" "I", Cond.fieldLink RX4 25 "WheelDesk$Wheel" "failed" "Z", Cond.fieldLink RX4 29 "WheelDesk$Wheel" "got" "I"]
def wsX5_setAxis : List Cond := .code yX5_setAxis cX5_setAxis 5 (some .int) :: ((wsX5_setAxis_r1 ++ (wsX5_setAxis_r2 ++ wsX5_setAxis_r3)) ++ wsX50 ++ wsX00 ++ wsX10 ++ wsX40)
def wsX5_set_r1 : List Cond := [Cond.fieldLink RX5 101 "WheelDesk" "LEAST_SETTING" "[I", Cond.fieldLink RX5 104 "WheelDesk" "GREATEST_SETTING" "[I", Cond.constant RX5 49 (-2000001), Cond.fieldLink RX5 36 "WheelDesk" "history" "LWheelDesk$History;", Cond.fieldLink RX5 10 "WheelDesk" "craft" "LWheelDesk$Craft;", Cond.fieldLink RX5 107 "WheelDesk$Craft" "settings" "[I", Cond.methodLink RX5 45 yX5_isWithin, Cond.static yX5_isWithin, Cond.initialized RX5, Cond.code yX5_isWithin cX5_isWithin 3 (some .boolean), Cond.methodLink RX5 55 yX1_keep, Cond.instanceMethod yX1_keep, Cond.selects RX1 yX1_keep yX1_keep, Cond.initialized RX1, Cond.code yX1_keep cX1_keep 2 none, Cond.fieldLink RX1 18 "WheelDesk$History" "kept" "I", Cond.fieldLink RX1 11 "WheelDesk$History" "states" "[LWheelDesk$Craft;", Cond.methodLink RX1 22 yX1_dropOldest, Cond.instanceMethod yX1_dropOldest, Cond.selects RX1 yX1_dropOldest yX1_dropOldest, Cond.code yX1_dropOldest cX1_dropOldest 3 none, Cond.methodLink RX1 25 yX0_become, Cond.instanceMethod yX0_become, Cond.selects RX0 yX0_become yX0_become]
def wsX5_set_r2 : List Cond := [Cond.initialized RX0, Cond.code yX0_become cX0_become 3 none, Cond.fieldLink RX0 47 "WheelDesk$Craft" "now" "I", Cond.fieldLink RX0 9 "WheelDesk$Craft" "settings" "[I", Cond.methodLink RX0 50 arraycopyName, Cond.native arraycopyName, Cond.static arraycopyName, Cond.initialized "java/lang/System", Cond.fieldLink RX0 17 "WheelDesk$Craft" "given" "[[I", Cond.fieldLink RX0 20 "WheelDesk$Craft" "angle" "[J", Cond.fieldLink RX0 24 "WheelDesk$Craft" "momentum" "[J", Cond.fieldLink RX0 27 "WheelDesk$Craft" "outside" "[J", Cond.fieldLink RX0 30 "WheelDesk$Craft" "wished" "[J", Cond.fieldLink RX0 56 "WheelDesk$Craft" "wheelCount" "I", Cond.fieldLink RX0 35 "WheelDesk$Craft" "wheelRow" "[LWheelDesk$Wheel;", Cond.fieldLink RX0 39 "WheelDesk$Craft" "reasons" "[I", Cond.fieldLink RX0 43 "WheelDesk$Craft" "reasonCount" "I", Cond.methodLink RX0 59 yX4_become, Cond.instanceMethod yX4_become, Cond.selects RX4 yX4_become yX4_become, Cond.initialized RX4, Cond.code yX4_become cX4_become 2 none, Cond.fieldLink RX4 9 "WheelDesk$Wheel" "direction" "[I", Cond.methodLink RX4 32 arraycopyName]
def wsX5_set_r3 : List Cond := [Cond.fieldLink RX4 15 "WheelDesk$Wheel" "momentum" "I", Cond.fieldLink RX4 19 "WheelDesk$Wheel" "mostMomentum" "I", Cond.fieldLink RX4 22 "WheelDesk$Wheel" "mostTorque" "I", Cond.fieldLink RX4 25 "WheelDesk$Wheel" "failed" "Z", Cond.fieldLink RX4 29 "WheelDesk$Wheel" "got" "I"]
def wsX5_set : List Cond := .code yX5_set cX5_set 4 (some .int) :: ((wsX5_set_r1 ++ (wsX5_set_r2 ++ wsX5_set_r3)) ++ wsX50 ++ wsX00 ++ wsX10 ++ wsX40)
def wsX5_setting : List Cond := .code yX5_setting cX5_setting 2 (some .int) :: ([.fieldLink RX5 10 "WheelDesk" "craft" "LWheelDesk$Craft;", .fieldLink RX5 107 "WheelDesk$Craft" "settings" "[I", .constant RX5 49 (-2000001), .methodLink RX5 45 yX5_isWithin, .static yX5_isWithin, .initialized RX5, .code yX5_isWithin cX5_isWithin 3 (some .boolean)] ++ wsX50 ++ wsX00)
def wsX5_strike_r1 : List Cond := [Cond.constant RX5 110 (-100000), Cond.constant RX5 48 (100000), Cond.constantLong RX5 111 (-4611686018427387905), Cond.fieldLink RX5 36 "WheelDesk" "history" "LWheelDesk$History;", Cond.fieldLink RX5 10 "WheelDesk" "craft" "LWheelDesk$Craft;", Cond.methodLink RX5 87 yX5_isAxis, Cond.static yX5_isAxis, Cond.initialized RX5, Cond.code yX5_isAxis cX5_isAxis 1 (some .boolean), Cond.methodLink RX5 45 yX5_isWithin, Cond.static yX5_isWithin, Cond.code yX5_isWithin cX5_isWithin 3 (some .boolean), Cond.methodLink RX5 55 yX1_keep, Cond.instanceMethod yX1_keep, Cond.selects RX1 yX1_keep yX1_keep, Cond.initialized RX1, Cond.code yX1_keep cX1_keep 2 none, Cond.fieldLink RX1 18 "WheelDesk$History" "kept" "I", Cond.fieldLink RX1 11 "WheelDesk$History" "states" "[LWheelDesk$Craft;", Cond.methodLink RX1 22 yX1_dropOldest, Cond.instanceMethod yX1_dropOldest, Cond.selects RX1 yX1_dropOldest yX1_dropOldest, Cond.code yX1_dropOldest cX1_dropOldest 3 none, Cond.methodLink RX1 25 yX0_become]
def wsX5_strike_r2 : List Cond := [Cond.instanceMethod yX0_become, Cond.selects RX0 yX0_become yX0_become, Cond.initialized RX0, Cond.code yX0_become cX0_become 3 none, Cond.fieldLink RX0 47 "WheelDesk$Craft" "now" "I", Cond.fieldLink RX0 9 "WheelDesk$Craft" "settings" "[I", Cond.methodLink RX0 50 arraycopyName, Cond.native arraycopyName, Cond.static arraycopyName, Cond.initialized "java/lang/System", Cond.fieldLink RX0 17 "WheelDesk$Craft" "given" "[[I", Cond.fieldLink RX0 20 "WheelDesk$Craft" "angle" "[J", Cond.fieldLink RX0 24 "WheelDesk$Craft" "momentum" "[J", Cond.fieldLink RX0 27 "WheelDesk$Craft" "outside" "[J", Cond.fieldLink RX0 30 "WheelDesk$Craft" "wished" "[J", Cond.fieldLink RX0 56 "WheelDesk$Craft" "wheelCount" "I", Cond.fieldLink RX0 35 "WheelDesk$Craft" "wheelRow" "[LWheelDesk$Wheel;", Cond.fieldLink RX0 39 "WheelDesk$Craft" "reasons" "[I", Cond.fieldLink RX0 43 "WheelDesk$Craft" "reasonCount" "I", Cond.methodLink RX0 59 yX4_become, Cond.instanceMethod yX4_become, Cond.selects RX4 yX4_become yX4_become, Cond.initialized RX4, Cond.code yX4_become cX4_become 2 none]
def wsX5_strike_r3 : List Cond := [Cond.fieldLink RX4 9 "WheelDesk$Wheel" "direction" "[I", Cond.methodLink RX4 32 arraycopyName, Cond.fieldLink RX4 15 "WheelDesk$Wheel" "momentum" "I", Cond.fieldLink RX4 19 "WheelDesk$Wheel" "mostMomentum" "I", Cond.fieldLink RX4 22 "WheelDesk$Wheel" "mostTorque" "I", Cond.fieldLink RX4 25 "WheelDesk$Wheel" "failed" "Z", Cond.fieldLink RX4 29 "WheelDesk$Wheel" "got" "I", Cond.methodLink RX5 113 yX0_pushFromOutside, Cond.instanceMethod yX0_pushFromOutside, Cond.selects RX0 yX0_pushFromOutside yX0_pushFromOutside, Cond.code yX0_pushFromOutside cX0_pushFromOutside 4 none, Cond.methodLink RX5 117 yX0_rate, Cond.instanceMethod yX0_rate, Cond.selects RX0 yX0_rate yX0_rate, Cond.code yX0_rate cX0_rate 2 (some .long), Cond.static yX5_quotient, Cond.code yX5_quotient cX5_quotient 4 (some .long), Cond.methodLink RX5 214 yJ9_floorDiv_f86c9, Cond.static yJ9_floorDiv_f86c9, Cond.initialized RJ9, Cond.code yJ9_floorDiv_f86c9 cJ9_floorDiv_f86c9 6 (some .long)]
def wsX5_strike : List Cond := .code yX5_strike cX5_strike 3 (some .long) :: ((wsX5_strike_r1 ++ (wsX5_strike_r2 ++ wsX5_strike_r3)) ++ wsX50 ++ wsX10 ++ wsX00 ++ wsX40)
def wsX5_passOne_r1 : List Cond := [Cond.fieldLink RX5 121 "WheelDesk$Craft" "now" "I", Cond.fieldLink RX5 22 "WheelDesk" "sharing" "LWheelDesk$Sharing;", Cond.fieldLink RX5 29 "WheelDesk" "magnets" "LWheelDesk$Magnets;", Cond.methodLink RX5 219 yX0_findWish, Cond.instanceMethod yX0_findWish, Cond.selects RX0 yX0_findWish yX0_findWish, Cond.initialized RX0, Cond.code yX0_findWish cX0_findWish 12 none, Cond.fieldLink RX0 9 "WheelDesk$Craft" "settings" "[I", Cond.fieldLink RX0 17 "WheelDesk$Craft" "given" "[[I", Cond.fieldLink RX0 20 "WheelDesk$Craft" "angle" "[J", Cond.constantLong RX0 90 (100), Cond.fieldLink RX0 30 "WheelDesk$Craft" "wished" "[J", Cond.static yX5_quotient, Cond.initialized RX5, Cond.code yX5_quotient cX5_quotient 4 (some .long), Cond.methodLink RX5 214 yJ9_floorDiv_f86c9, Cond.static yJ9_floorDiv_f86c9, Cond.initialized RJ9, Cond.code yJ9_floorDiv_f86c9 cJ9_floorDiv_f86c9 6 (some .long), Cond.static yX5_limited, Cond.code yX5_limited cX5_limited 6 (some .long), Cond.methodLink RX0 63 yX0_rate, Cond.instanceMethod yX0_rate]
def wsX5_passOne_r2 : List Cond := [Cond.selects RX0 yX0_rate yX0_rate, Cond.code yX0_rate cX0_rate 2 (some .long), Cond.fieldLink RX0 24 "WheelDesk$Craft" "momentum" "[J", Cond.methodLink RX5 222 yX3_share, Cond.instanceMethod yX3_share, Cond.selects RX3 yX3_share yX3_share, Cond.initialized RX3, Cond.code yX3_share cX3_share 3 none, Cond.fieldLink RX3 23 "WheelDesk$Craft" "wheelCount" "I", Cond.fieldLink RX3 29 "WheelDesk$Craft" "wheelRow" "[LWheelDesk$Wheel;", Cond.fieldLink RX3 70 "WheelDesk$Wheel" "got" "I", Cond.fieldLink RX3 79 "WheelDesk$Craft" "wished" "[J", Cond.fieldLink RX3 33 "WheelDesk$Wheel" "failed" "Z", Cond.methodLink RX3 58 yX3_spans, Cond.instanceMethod yX3_spans, Cond.selects RX3 yX3_spans yX3_spans, Cond.code yX3_spans cX3_spans 1 (some .boolean), Cond.fieldLink RX3 50 "WheelDesk$Sharing" "determinant" "J", Cond.methodLink RX3 73 yX0_tellNoSpan, Cond.instanceMethod yX0_tellNoSpan, Cond.selects RX0 yX0_tellNoSpan yX0_tellNoSpan, Cond.code yX0_tellNoSpan cX0_tellNoSpan 2 none, Cond.fieldLink RX0 39 "WheelDesk$Craft" "reasons" "[I", Cond.fieldLink RX0 43 "WheelDesk$Craft" "reasonCount" "I"]
def wsX5_passOne_r3 : List Cond := [Cond.fieldLink RX0 56 "WheelDesk$Craft" "wheelCount" "I", Cond.fieldLink RX0 35 "WheelDesk$Craft" "wheelRow" "[LWheelDesk$Wheel;", Cond.fieldLink RX0 100 "WheelDesk$Wheel" "failed" "Z", Cond.methodLink RX3 76 yX0_tellMet, Cond.instanceMethod yX0_tellMet, Cond.selects RX0 yX0_tellMet yX0_tellMet, Cond.code yX0_tellMet cX0_tellMet 1 none, Cond.methodLink RX3 82 yX3_aim, Cond.instanceMethod yX3_aim, Cond.selects RX3 yX3_aim yX3_aim, Cond.code yX3_aim cX3_aim 8 none, Cond.fieldLink RX3 19 "WheelDesk$Sharing" "aimed" "[J", Cond.fieldLink RX3 16 "WheelDesk$Sharing" "cofactor" "[[J", Cond.methodLink RX3 86 yX3_give, Cond.instanceMethod yX3_give, Cond.selects RX3 yX3_give yX3_give, Cond.code yX3_give cX3_give 11 none, Cond.fieldLink RX3 101 "WheelDesk$Wheel" "momentum" "I", Cond.fieldLink RX3 104 "WheelDesk$Craft" "momentum" "[J", Cond.fieldLink RX3 39 "WheelDesk$Wheel" "direction" "[I", Cond.methodLink RX3 90 yX3_wishOf, Cond.instanceMethod yX3_wishOf, Cond.selects RX3 yX3_wishOf yX3_wishOf, Cond.code yX3_wishOf cX3_wishOf 5 (some .long)]
def wsX5_passOne_r4 : List Cond := [Cond.constantLong RX3 62 (2), Cond.methodLink RX3 64 yJ9_floorDiv_f86c9, Cond.methodLink RX3 94 yX4_allowedByTorque, Cond.instanceMethod yX4_allowedByTorque, Cond.selects RX4 yX4_allowedByTorque yX4_allowedByTorque, Cond.initialized RX4, Cond.code yX4_allowedByTorque cX4_allowedByTorque 3 (some .long), Cond.fieldLink RX4 22 "WheelDesk$Wheel" "mostTorque" "I", Cond.methodLink RX3 98 yX4_allowedByMomentum, Cond.instanceMethod yX4_allowedByMomentum, Cond.selects RX4 yX4_allowedByMomentum yX4_allowedByMomentum, Cond.code yX4_allowedByMomentum cX4_allowedByMomentum 7 (some .long), Cond.fieldLink RX4 19 "WheelDesk$Wheel" "mostMomentum" "I", Cond.fieldLink RX4 15 "WheelDesk$Wheel" "momentum" "I", Cond.methodLink RX4 42 Lib.Math.min.name, Cond.static Lib.Math.min.name, Cond.initialized "java/lang/Math", Cond.code Lib.Math.min.name Lib.Math.min.code 2 (some .int), Cond.methodLink RX4 48 Lib.Math.max.name, Cond.static Lib.Math.max.name, Cond.code Lib.Math.max.name Lib.Math.max.code 2 (some .int), Cond.methodLink RX3 106 yX0_isMet, Cond.instanceMethod yX0_isMet, Cond.selects RX0 yX0_isMet yX0_isMet]
def wsX5_passOne_r5 : List Cond := [Cond.code yX0_isMet cX0_isMet 1 (some .boolean), Cond.methodLink RX3 109 yX0_tellLimited, Cond.instanceMethod yX0_tellLimited, Cond.selects RX0 yX0_tellLimited yX0_tellLimited, Cond.code yX0_tellLimited cX0_tellLimited 3 none, Cond.methodLink RX5 225 yX2_letGo, Cond.instanceMethod yX2_letGo, Cond.selects RX2 yX2_letGo yX2_letGo, Cond.initialized RX2, Cond.code yX2_letGo cX2_letGo 6 none, Cond.fieldLink RX2 18 "WheelDesk$Craft" "given" "[[I", Cond.fieldLink RX2 24 "WheelDesk$Craft" "settings" "[I", Cond.fieldLink RX2 9 "WheelDesk$Magnets" "held" "[J", Cond.fieldLink RX2 15 "WheelDesk$Magnets" "moment" "[J", Cond.constantLong RX2 36 (1000), Cond.constantLong RX2 46 (100), Cond.methodLink RX2 28 yX0_wheelMomentum, Cond.instanceMethod yX0_wheelMomentum, Cond.selects RX0 yX0_wheelMomentum yX0_wheelMomentum, Cond.code yX0_wheelMomentum cX0_wheelMomentum 5 (some .long), Cond.fieldLink RX0 76 "WheelDesk$Wheel" "direction" "[I", Cond.fieldLink RX0 79 "WheelDesk$Wheel" "momentum" "I", Cond.methodLink RX2 32 yX2_crossed, Cond.static yX2_crossed]
def wsX5_passOne_r6 : List Cond := [Cond.code yX2_crossed cX2_crossed 5 (some .long), Cond.static yX5_axisAfter, Cond.code yX5_axisAfter cX5_axisAfter 2 (some .int), Cond.methodLink RX2 48 yX0_pushFromOutside, Cond.instanceMethod yX0_pushFromOutside, Cond.selects RX0 yX0_pushFromOutside yX0_pushFromOutside, Cond.code yX0_pushFromOutside cX0_pushFromOutside 4 none, Cond.fieldLink RX0 27 "WheelDesk$Craft" "outside" "[J", Cond.methodLink RX5 228 yX0_disturb, Cond.instanceMethod yX0_disturb, Cond.selects RX0 yX0_disturb yX0_disturb, Cond.code yX0_disturb cX0_disturb 2 none, Cond.methodLink RX0 96 yX0_pushFromOutside, Cond.methodLink RX5 231 yX0_turn, Cond.instanceMethod yX0_turn, Cond.selects RX0 yX0_turn yX0_turn, Cond.code yX0_turn cX0_turn 2 none]
def wsX5_passOne : List Cond := .code yX5_passOne cX5_passOne 2 none :: ((wsX5_passOne_r1 ++ (wsX5_passOne_r2 ++ (wsX5_passOne_r3 ++ (wsX5_passOne_r4 ++ (wsX5_passOne_r5 ++ wsX5_passOne_r6))))) ++ wsX00 ++ wsX50 ++ wsX40 ++ wsX30 ++ wsX20)
def wsX5_tick_r1 : List Cond := [Cond.constant RX5 49 (-2000001), Cond.fieldLink RX5 10 "WheelDesk" "craft" "LWheelDesk$Craft;", Cond.fieldLink RX5 121 "WheelDesk$Craft" "now" "I", Cond.constant RX5 124 (50000), Cond.constant RX5 125 (-2000002), Cond.fieldLink RX5 36 "WheelDesk" "history" "LWheelDesk$History;", Cond.fieldLink RX5 22 "WheelDesk" "sharing" "LWheelDesk$Sharing;", Cond.constant RX5 126 (-2000009), Cond.methodLink RX5 45 yX5_isWithin, Cond.static yX5_isWithin, Cond.initialized RX5, Cond.code yX5_isWithin cX5_isWithin 3 (some .boolean), Cond.methodLink RX5 55 yX1_keep, Cond.instanceMethod yX1_keep, Cond.selects RX1 yX1_keep yX1_keep, Cond.initialized RX1, Cond.code yX1_keep cX1_keep 2 none, Cond.fieldLink RX1 18 "WheelDesk$History" "kept" "I", Cond.fieldLink RX1 11 "WheelDesk$History" "states" "[LWheelDesk$Craft;", Cond.methodLink RX1 22 yX1_dropOldest, Cond.instanceMethod yX1_dropOldest, Cond.selects RX1 yX1_dropOldest yX1_dropOldest, Cond.code yX1_dropOldest cX1_dropOldest 3 none, Cond.methodLink RX1 25 yX0_become]
def wsX5_tick_r2 : List Cond := [Cond.instanceMethod yX0_become, Cond.selects RX0 yX0_become yX0_become, Cond.initialized RX0, Cond.code yX0_become cX0_become 3 none, Cond.fieldLink RX0 47 "WheelDesk$Craft" "now" "I", Cond.fieldLink RX0 9 "WheelDesk$Craft" "settings" "[I", Cond.methodLink RX0 50 arraycopyName, Cond.native arraycopyName, Cond.static arraycopyName, Cond.initialized "java/lang/System", Cond.fieldLink RX0 17 "WheelDesk$Craft" "given" "[[I", Cond.fieldLink RX0 20 "WheelDesk$Craft" "angle" "[J", Cond.fieldLink RX0 24 "WheelDesk$Craft" "momentum" "[J", Cond.fieldLink RX0 27 "WheelDesk$Craft" "outside" "[J", Cond.fieldLink RX0 30 "WheelDesk$Craft" "wished" "[J", Cond.fieldLink RX0 56 "WheelDesk$Craft" "wheelCount" "I", Cond.fieldLink RX0 35 "WheelDesk$Craft" "wheelRow" "[LWheelDesk$Wheel;", Cond.fieldLink RX0 39 "WheelDesk$Craft" "reasons" "[I", Cond.fieldLink RX0 43 "WheelDesk$Craft" "reasonCount" "I", Cond.methodLink RX0 59 yX4_become, Cond.instanceMethod yX4_become, Cond.selects RX4 yX4_become yX4_become, Cond.initialized RX4, Cond.code yX4_become cX4_become 2 none]
def wsX5_tick_r3 : List Cond := [Cond.fieldLink RX4 9 "WheelDesk$Wheel" "direction" "[I", Cond.methodLink RX4 32 arraycopyName, Cond.fieldLink RX4 15 "WheelDesk$Wheel" "momentum" "I", Cond.fieldLink RX4 19 "WheelDesk$Wheel" "mostMomentum" "I", Cond.fieldLink RX4 22 "WheelDesk$Wheel" "mostTorque" "I", Cond.fieldLink RX4 25 "WheelDesk$Wheel" "failed" "Z", Cond.fieldLink RX4 29 "WheelDesk$Wheel" "got" "I", Cond.methodLink RX5 127 yX3_measure, Cond.instanceMethod yX3_measure, Cond.selects RX3 yX3_measure yX3_measure, Cond.initialized RX3, Cond.code yX3_measure cX3_measure 5 none, Cond.fieldLink RX3 11 "WheelDesk$Sharing" "matrix" "[[J", Cond.fieldLink RX3 23 "WheelDesk$Craft" "wheelCount" "I", Cond.fieldLink RX3 29 "WheelDesk$Craft" "wheelRow" "[LWheelDesk$Wheel;", Cond.fieldLink RX3 33 "WheelDesk$Wheel" "failed" "Z", Cond.fieldLink RX3 39 "WheelDesk$Wheel" "direction" "[I", Cond.fieldLink RX3 50 "WheelDesk$Sharing" "determinant" "J", Cond.fieldLink RX3 16 "WheelDesk$Sharing" "cofactor" "[[J", Cond.methodLink RX3 43 yX3_addProducts, Cond.instanceMethod yX3_addProducts, Cond.selects RX3 yX3_addProducts yX3_addProducts, Cond.code yX3_addProducts cX3_addProducts 4 none, Cond.methodLink RX3 47 yX3_findCofactors]
def wsX5_tick_r4 : List Cond := [Cond.instanceMethod yX3_findCofactors, Cond.selects RX3 yX3_findCofactors yX3_findCofactors, Cond.code yX3_findCofactors cX3_findCofactors 7 none, Cond.static yX5_axisAfter, Cond.code yX5_axisAfter cX5_axisAfter 2 (some .int), Cond.methodLink RX5 131 yX5_passOne, Cond.instanceMethod yX5_passOne, Cond.selects RX5 yX5_passOne yX5_passOne, Cond.code yX5_passOne cX5_passOne 2 none, Cond.fieldLink RX5 29 "WheelDesk" "magnets" "LWheelDesk$Magnets;", Cond.methodLink RX5 219 yX0_findWish, Cond.instanceMethod yX0_findWish, Cond.selects RX0 yX0_findWish yX0_findWish, Cond.code yX0_findWish cX0_findWish 12 none, Cond.constantLong RX0 90 (100), Cond.static yX5_quotient, Cond.code yX5_quotient cX5_quotient 4 (some .long), Cond.methodLink RX5 214 yJ9_floorDiv_f86c9, Cond.static yJ9_floorDiv_f86c9, Cond.initialized RJ9, Cond.code yJ9_floorDiv_f86c9 cJ9_floorDiv_f86c9 6 (some .long), Cond.static yX5_limited, Cond.code yX5_limited cX5_limited 6 (some .long), Cond.methodLink RX0 63 yX0_rate]
def wsX5_tick_r5 : List Cond := [Cond.instanceMethod yX0_rate, Cond.selects RX0 yX0_rate yX0_rate, Cond.code yX0_rate cX0_rate 2 (some .long), Cond.methodLink RX5 222 yX3_share, Cond.instanceMethod yX3_share, Cond.selects RX3 yX3_share yX3_share, Cond.code yX3_share cX3_share 3 none, Cond.fieldLink RX3 70 "WheelDesk$Wheel" "got" "I", Cond.fieldLink RX3 79 "WheelDesk$Craft" "wished" "[J", Cond.methodLink RX3 58 yX3_spans, Cond.instanceMethod yX3_spans, Cond.selects RX3 yX3_spans yX3_spans, Cond.code yX3_spans cX3_spans 1 (some .boolean), Cond.methodLink RX3 73 yX0_tellNoSpan, Cond.instanceMethod yX0_tellNoSpan, Cond.selects RX0 yX0_tellNoSpan yX0_tellNoSpan, Cond.code yX0_tellNoSpan cX0_tellNoSpan 2 none, Cond.fieldLink RX0 100 "WheelDesk$Wheel" "failed" "Z", Cond.methodLink RX3 76 yX0_tellMet, Cond.instanceMethod yX0_tellMet, Cond.selects RX0 yX0_tellMet yX0_tellMet, Cond.code yX0_tellMet cX0_tellMet 1 none, Cond.methodLink RX3 82 yX3_aim, Cond.instanceMethod yX3_aim]
def wsX5_tick_r6 : List Cond := [Cond.selects RX3 yX3_aim yX3_aim, Cond.code yX3_aim cX3_aim 8 none, Cond.fieldLink RX3 19 "WheelDesk$Sharing" "aimed" "[J", Cond.methodLink RX3 86 yX3_give, Cond.instanceMethod yX3_give, Cond.selects RX3 yX3_give yX3_give, Cond.code yX3_give cX3_give 11 none, Cond.fieldLink RX3 101 "WheelDesk$Wheel" "momentum" "I", Cond.fieldLink RX3 104 "WheelDesk$Craft" "momentum" "[J", Cond.methodLink RX3 90 yX3_wishOf, Cond.instanceMethod yX3_wishOf, Cond.selects RX3 yX3_wishOf yX3_wishOf, Cond.code yX3_wishOf cX3_wishOf 5 (some .long), Cond.constantLong RX3 62 (2), Cond.methodLink RX3 64 yJ9_floorDiv_f86c9, Cond.methodLink RX3 94 yX4_allowedByTorque, Cond.instanceMethod yX4_allowedByTorque, Cond.selects RX4 yX4_allowedByTorque yX4_allowedByTorque, Cond.code yX4_allowedByTorque cX4_allowedByTorque 3 (some .long), Cond.methodLink RX3 98 yX4_allowedByMomentum, Cond.instanceMethod yX4_allowedByMomentum, Cond.selects RX4 yX4_allowedByMomentum yX4_allowedByMomentum, Cond.code yX4_allowedByMomentum cX4_allowedByMomentum 7 (some .long), Cond.methodLink RX4 42 Lib.Math.min.name]
def wsX5_tick_r7 : List Cond := [Cond.static Lib.Math.min.name, Cond.initialized "java/lang/Math", Cond.code Lib.Math.min.name Lib.Math.min.code 2 (some .int), Cond.methodLink RX4 48 Lib.Math.max.name, Cond.static Lib.Math.max.name, Cond.code Lib.Math.max.name Lib.Math.max.code 2 (some .int), Cond.methodLink RX3 106 yX0_isMet, Cond.instanceMethod yX0_isMet, Cond.selects RX0 yX0_isMet yX0_isMet, Cond.code yX0_isMet cX0_isMet 1 (some .boolean), Cond.methodLink RX3 109 yX0_tellLimited, Cond.instanceMethod yX0_tellLimited, Cond.selects RX0 yX0_tellLimited yX0_tellLimited, Cond.code yX0_tellLimited cX0_tellLimited 3 none, Cond.methodLink RX5 225 yX2_letGo, Cond.instanceMethod yX2_letGo, Cond.selects RX2 yX2_letGo yX2_letGo, Cond.initialized RX2, Cond.code yX2_letGo cX2_letGo 6 none, Cond.fieldLink RX2 18 "WheelDesk$Craft" "given" "[[I", Cond.fieldLink RX2 24 "WheelDesk$Craft" "settings" "[I", Cond.fieldLink RX2 9 "WheelDesk$Magnets" "held" "[J", Cond.fieldLink RX2 15 "WheelDesk$Magnets" "moment" "[J", Cond.constantLong RX2 36 (1000)]
def wsX5_tick_r8 : List Cond := [Cond.constantLong RX2 46 (100), Cond.methodLink RX2 28 yX0_wheelMomentum, Cond.instanceMethod yX0_wheelMomentum, Cond.selects RX0 yX0_wheelMomentum yX0_wheelMomentum, Cond.code yX0_wheelMomentum cX0_wheelMomentum 5 (some .long), Cond.fieldLink RX0 76 "WheelDesk$Wheel" "direction" "[I", Cond.fieldLink RX0 79 "WheelDesk$Wheel" "momentum" "I", Cond.methodLink RX2 32 yX2_crossed, Cond.static yX2_crossed, Cond.code yX2_crossed cX2_crossed 5 (some .long), Cond.methodLink RX2 48 yX0_pushFromOutside, Cond.instanceMethod yX0_pushFromOutside, Cond.selects RX0 yX0_pushFromOutside yX0_pushFromOutside, Cond.code yX0_pushFromOutside cX0_pushFromOutside 4 none, Cond.methodLink RX5 228 yX0_disturb, Cond.instanceMethod yX0_disturb, Cond.selects RX0 yX0_disturb yX0_disturb, Cond.code yX0_disturb cX0_disturb 2 none, Cond.methodLink RX0 96 yX0_pushFromOutside, Cond.methodLink RX5 231 yX0_turn, Cond.instanceMethod yX0_turn, Cond.selects RX0 yX0_turn yX0_turn, Cond.code yX0_turn cX0_turn 2 none, Cond.methodLink RX5 134 yX0_isMet]
def wsX5_tick : List Cond := .code yX5_tick cX5_tick 4 (some .int) :: ((wsX5_tick_r1 ++ (wsX5_tick_r2 ++ (wsX5_tick_r3 ++ (wsX5_tick_r4 ++ (wsX5_tick_r5 ++ (wsX5_tick_r6 ++ (wsX5_tick_r7 ++ wsX5_tick_r8))))))) ++ wsX50 ++ wsX00 ++ wsX10 ++ wsX40 ++ wsX30 ++ wsX20)
def wsX5_time : List Cond := .code yX5_time cX5_time 1 (some .int) :: ([.fieldLink RX5 10 "WheelDesk" "craft" "LWheelDesk$Craft;", .fieldLink RX5 121 "WheelDesk$Craft" "now" "I"] ++ wsX50 ++ wsX00)
def wsX5_axis_r1 : List Cond := [Cond.constantLong RX5 111 (-4611686018427387905), Cond.fieldLink RX5 10 "WheelDesk" "craft" "LWheelDesk$Craft;", Cond.methodLink RX5 87 yX5_isAxis, Cond.static yX5_isAxis, Cond.initialized RX5, Cond.code yX5_isAxis cX5_isAxis 1 (some .boolean), Cond.methodLink RX5 45 yX5_isWithin, Cond.static yX5_isWithin, Cond.code yX5_isWithin cX5_isWithin 3 (some .boolean), Cond.methodLink RX5 138 yX0_number, Cond.instanceMethod yX0_number, Cond.selects RX0 yX0_number yX0_number, Cond.initialized RX0, Cond.code yX0_number cX0_number 3 (some .long), Cond.fieldLink RX0 20 "WheelDesk$Craft" "angle" "[J", Cond.fieldLink RX0 24 "WheelDesk$Craft" "momentum" "[J", Cond.fieldLink RX0 27 "WheelDesk$Craft" "outside" "[J", Cond.fieldLink RX0 30 "WheelDesk$Craft" "wished" "[J", Cond.fieldLink RX0 17 "WheelDesk$Craft" "given" "[[I", Cond.constantLong RX0 70 (-4611686018427387905), Cond.methodLink RX0 63 yX0_rate, Cond.instanceMethod yX0_rate, Cond.selects RX0 yX0_rate yX0_rate, Cond.code yX0_rate cX0_rate 2 (some .long)]
def wsX5_axis_r2 : List Cond := [Cond.static yX5_quotient, Cond.code yX5_quotient cX5_quotient 4 (some .long), Cond.methodLink RX5 214 yJ9_floorDiv_f86c9, Cond.static yJ9_floorDiv_f86c9, Cond.initialized RJ9, Cond.code yJ9_floorDiv_f86c9 cJ9_floorDiv_f86c9 6 (some .long), Cond.methodLink RX0 67 yX0_wheelMomentum, Cond.instanceMethod yX0_wheelMomentum, Cond.selects RX0 yX0_wheelMomentum yX0_wheelMomentum, Cond.code yX0_wheelMomentum cX0_wheelMomentum 5 (some .long), Cond.fieldLink RX0 56 "WheelDesk$Craft" "wheelCount" "I", Cond.fieldLink RX0 35 "WheelDesk$Craft" "wheelRow" "[LWheelDesk$Wheel;", Cond.fieldLink RX0 76 "WheelDesk$Wheel" "direction" "[I", Cond.fieldLink RX0 79 "WheelDesk$Wheel" "momentum" "I"]
def wsX5_axis : List Cond := .code yX5_axis cX5_axis 3 (some .long) :: ((wsX5_axis_r1 ++ wsX5_axis_r2) ++ wsX50 ++ wsX00 ++ wsX40)
def wsX5_span_r1 : List Cond := [Cond.fieldLink RX5 22 "WheelDesk" "sharing" "LWheelDesk$Sharing;", Cond.fieldLink RX5 10 "WheelDesk" "craft" "LWheelDesk$Craft;", Cond.constant RX5 126 (-2000009), Cond.fieldLink RX5 141 "WheelDesk$Sharing" "determinant" "J", Cond.methodLink RX5 127 yX3_measure, Cond.instanceMethod yX3_measure, Cond.selects RX3 yX3_measure yX3_measure, Cond.initialized RX3, Cond.code yX3_measure cX3_measure 5 none, Cond.fieldLink RX3 11 "WheelDesk$Sharing" "matrix" "[[J", Cond.fieldLink RX3 23 "WheelDesk$Craft" "wheelCount" "I", Cond.fieldLink RX3 29 "WheelDesk$Craft" "wheelRow" "[LWheelDesk$Wheel;", Cond.fieldLink RX3 33 "WheelDesk$Wheel" "failed" "Z", Cond.fieldLink RX3 39 "WheelDesk$Wheel" "direction" "[I", Cond.fieldLink RX3 50 "WheelDesk$Sharing" "determinant" "J", Cond.fieldLink RX3 16 "WheelDesk$Sharing" "cofactor" "[[J", Cond.methodLink RX3 43 yX3_addProducts, Cond.instanceMethod yX3_addProducts, Cond.selects RX3 yX3_addProducts yX3_addProducts, Cond.code yX3_addProducts cX3_addProducts 4 none, Cond.methodLink RX3 47 yX3_findCofactors, Cond.instanceMethod yX3_findCofactors, Cond.selects RX3 yX3_findCofactors yX3_findCofactors, Cond.code yX3_findCofactors cX3_findCofactors 7 none]
def wsX5_span_r2 : List Cond := [Cond.static yX5_axisAfter, Cond.initialized RX5, Cond.code yX5_axisAfter cX5_axisAfter 2 (some .int)]
def wsX5_span : List Cond := .code yX5_span cX5_span 1 (some .long) :: ((wsX5_span_r1 ++ wsX5_span_r2) ++ wsX50 ++ wsX30 ++ wsX00 ++ wsX40)
def wsX5_isTorque : List Cond := .code yX5_isTorque cX5_isTorque 1 (some .boolean) :: ([.constant RX5 110 (-100000), .constant RX5 48 (100000), .methodLink RX5 45 yX5_isWithin, .static yX5_isWithin, .initialized RX5, .code yX5_isWithin cX5_isWithin 3 (some .boolean)])
def wsX5_wish_r1 : List Cond := [Cond.constantLong RX5 111 (-4611686018427387905), Cond.fieldLink RX5 10 "WheelDesk" "craft" "LWheelDesk$Craft;", Cond.fieldLink RX5 59 "WheelDesk$Craft" "wheelRow" "[LWheelDesk$Wheel;", Cond.fieldLink RX5 22 "WheelDesk" "sharing" "LWheelDesk$Sharing;", Cond.constant RX5 126 (-2000009), Cond.fieldLink RX5 73 "WheelDesk$Wheel" "failed" "Z", Cond.methodLink RX5 69 yX5_isWheel, Cond.instanceMethod yX5_isWheel, Cond.selects RX5 yX5_isWheel yX5_isWheel, Cond.initialized RX5, Cond.code yX5_isWheel cX5_isWheel 2 (some .boolean), Cond.fieldLink RX5 50 "WheelDesk$Craft" "wheelCount" "I", Cond.methodLink RX5 45 yX5_isWithin, Cond.static yX5_isWithin, Cond.code yX5_isWithin cX5_isWithin 3 (some .boolean), Cond.methodLink RX5 145 yX5_isTorque, Cond.static yX5_isTorque, Cond.code yX5_isTorque cX5_isTorque 1 (some .boolean), Cond.constant RX5 110 (-100000), Cond.constant RX5 48 (100000), Cond.methodLink RX5 127 yX3_measure, Cond.instanceMethod yX3_measure, Cond.selects RX3 yX3_measure yX3_measure, Cond.initialized RX3]
def wsX5_wish_r2 : List Cond := [Cond.code yX3_measure cX3_measure 5 none, Cond.fieldLink RX3 11 "WheelDesk$Sharing" "matrix" "[[J", Cond.fieldLink RX3 23 "WheelDesk$Craft" "wheelCount" "I", Cond.fieldLink RX3 29 "WheelDesk$Craft" "wheelRow" "[LWheelDesk$Wheel;", Cond.fieldLink RX3 33 "WheelDesk$Wheel" "failed" "Z", Cond.fieldLink RX3 39 "WheelDesk$Wheel" "direction" "[I", Cond.fieldLink RX3 50 "WheelDesk$Sharing" "determinant" "J", Cond.fieldLink RX3 16 "WheelDesk$Sharing" "cofactor" "[[J", Cond.methodLink RX3 43 yX3_addProducts, Cond.instanceMethod yX3_addProducts, Cond.selects RX3 yX3_addProducts yX3_addProducts, Cond.code yX3_addProducts cX3_addProducts 4 none, Cond.methodLink RX3 47 yX3_findCofactors, Cond.instanceMethod yX3_findCofactors, Cond.selects RX3 yX3_findCofactors yX3_findCofactors, Cond.code yX3_findCofactors cX3_findCofactors 7 none, Cond.static yX5_axisAfter, Cond.code yX5_axisAfter cX5_axisAfter 2 (some .int), Cond.methodLink RX5 148 yX3_spans, Cond.instanceMethod yX3_spans, Cond.selects RX3 yX3_spans yX3_spans, Cond.code yX3_spans cX3_spans 1 (some .boolean), Cond.methodLink RX5 151 yX3_aim, Cond.instanceMethod yX3_aim]
def wsX5_wish_r3 : List Cond := [Cond.selects RX3 yX3_aim yX3_aim, Cond.code yX3_aim cX3_aim 8 none, Cond.fieldLink RX3 19 "WheelDesk$Sharing" "aimed" "[J", Cond.methodLink RX5 155 yX3_wishOf, Cond.instanceMethod yX3_wishOf, Cond.selects RX3 yX3_wishOf yX3_wishOf, Cond.code yX3_wishOf cX3_wishOf 5 (some .long), Cond.constantLong RX3 62 (2), Cond.methodLink RX3 58 yX3_spans, Cond.methodLink RX3 64 yJ9_floorDiv_f86c9, Cond.static yJ9_floorDiv_f86c9, Cond.initialized RJ9, Cond.code yJ9_floorDiv_f86c9 cJ9_floorDiv_f86c9 6 (some .long)]
def wsX5_wish : List Cond := .code yX5_wish cX5_wish 6 (some .long) :: ((wsX5_wish_r1 ++ (wsX5_wish_r2 ++ wsX5_wish_r3)) ++ wsX50 ++ wsX00 ++ wsX40 ++ wsX30)
def wsX5_why : List Cond := .code yX5_why cX5_why 2 (some .int) :: ([.constant RX5 49 (-2000001), .fieldLink RX5 10 "WheelDesk" "craft" "LWheelDesk$Craft;", .fieldLink RX5 159 "WheelDesk$Craft" "reasonCount" "I", .fieldLink RX5 162 "WheelDesk$Craft" "reasons" "[I", .constant RX5 126 (-2000009)] ++ wsX50 ++ wsX00)
def wsX5_fullness : List Cond := .code yX5_fullness cX5_fullness 4 (some .float) :: ([.fieldLink RX5 10 "WheelDesk" "craft" "LWheelDesk$Craft;", .fieldLink RX5 50 "WheelDesk$Craft" "wheelCount" "I", .fieldLink RX5 59 "WheelDesk$Craft" "wheelRow" "[LWheelDesk$Wheel;", .methodLink RX5 165 yX4_fullPart, .instanceMethod yX4_fullPart, .selects RX4 yX4_fullPart yX4_fullPart, .initialized RX4, .code yX4_fullPart cX4_fullPart 2 (some .float), .fieldLink RX4 19 "WheelDesk$Wheel" "mostMomentum" "I", .fieldLink RX4 15 "WheelDesk$Wheel" "momentum" "I", .methodLink RX4 51 Lib.Math.abs.name, .static Lib.Math.abs.name, .initialized "java/lang/Math", .code Lib.Math.abs.name Lib.Math.abs.code 1 (some .int)] ++ wsX50 ++ wsX00 ++ wsX40)
def wsX5_arrives_r1 : List Cond := [Cond.constant RX5 44 (1000000), Cond.constant RX5 49 (-2000001), Cond.fieldLink RX5 16 "WheelDesk" "trial" "LWheelDesk$Craft;", Cond.fieldLink RX5 10 "WheelDesk" "craft" "LWheelDesk$Craft;", Cond.fieldLink RX5 22 "WheelDesk" "sharing" "LWheelDesk$Sharing;", Cond.constant RX5 126 (-2000009), Cond.methodLink RX5 45 yX5_isWithin, Cond.static yX5_isWithin, Cond.initialized RX5, Cond.code yX5_isWithin cX5_isWithin 3 (some .boolean), Cond.methodLink RX5 169 yX0_become, Cond.instanceMethod yX0_become, Cond.selects RX0 yX0_become yX0_become, Cond.initialized RX0, Cond.code yX0_become cX0_become 3 none, Cond.fieldLink RX0 47 "WheelDesk$Craft" "now" "I", Cond.fieldLink RX0 9 "WheelDesk$Craft" "settings" "[I", Cond.methodLink RX0 50 arraycopyName, Cond.native arraycopyName, Cond.static arraycopyName, Cond.initialized "java/lang/System", Cond.fieldLink RX0 17 "WheelDesk$Craft" "given" "[[I", Cond.fieldLink RX0 20 "WheelDesk$Craft" "angle" "[J", Cond.fieldLink RX0 24 "WheelDesk$Craft" "momentum" "[J"]
def wsX5_arrives_r2 : List Cond := [Cond.fieldLink RX0 27 "WheelDesk$Craft" "outside" "[J", Cond.fieldLink RX0 30 "WheelDesk$Craft" "wished" "[J", Cond.fieldLink RX0 56 "WheelDesk$Craft" "wheelCount" "I", Cond.fieldLink RX0 35 "WheelDesk$Craft" "wheelRow" "[LWheelDesk$Wheel;", Cond.fieldLink RX0 39 "WheelDesk$Craft" "reasons" "[I", Cond.fieldLink RX0 43 "WheelDesk$Craft" "reasonCount" "I", Cond.methodLink RX0 59 yX4_become, Cond.instanceMethod yX4_become, Cond.selects RX4 yX4_become yX4_become, Cond.initialized RX4, Cond.code yX4_become cX4_become 2 none, Cond.fieldLink RX4 9 "WheelDesk$Wheel" "direction" "[I", Cond.methodLink RX4 32 arraycopyName, Cond.fieldLink RX4 15 "WheelDesk$Wheel" "momentum" "I", Cond.fieldLink RX4 19 "WheelDesk$Wheel" "mostMomentum" "I", Cond.fieldLink RX4 22 "WheelDesk$Wheel" "mostTorque" "I", Cond.fieldLink RX4 25 "WheelDesk$Wheel" "failed" "Z", Cond.fieldLink RX4 29 "WheelDesk$Wheel" "got" "I", Cond.methodLink RX5 127 yX3_measure, Cond.instanceMethod yX3_measure, Cond.selects RX3 yX3_measure yX3_measure, Cond.initialized RX3, Cond.code yX3_measure cX3_measure 5 none, Cond.fieldLink RX3 11 "WheelDesk$Sharing" "matrix" "[[J"]
def wsX5_arrives_r3 : List Cond := [Cond.fieldLink RX3 23 "WheelDesk$Craft" "wheelCount" "I", Cond.fieldLink RX3 29 "WheelDesk$Craft" "wheelRow" "[LWheelDesk$Wheel;", Cond.fieldLink RX3 33 "WheelDesk$Wheel" "failed" "Z", Cond.fieldLink RX3 39 "WheelDesk$Wheel" "direction" "[I", Cond.fieldLink RX3 50 "WheelDesk$Sharing" "determinant" "J", Cond.fieldLink RX3 16 "WheelDesk$Sharing" "cofactor" "[[J", Cond.methodLink RX3 43 yX3_addProducts, Cond.instanceMethod yX3_addProducts, Cond.selects RX3 yX3_addProducts yX3_addProducts, Cond.code yX3_addProducts cX3_addProducts 4 none, Cond.methodLink RX3 47 yX3_findCofactors, Cond.instanceMethod yX3_findCofactors, Cond.selects RX3 yX3_findCofactors yX3_findCofactors, Cond.code yX3_findCofactors cX3_findCofactors 7 none, Cond.static yX5_axisAfter, Cond.code yX5_axisAfter cX5_axisAfter 2 (some .int), Cond.methodLink RX5 172 yX0_isOnTarget, Cond.instanceMethod yX0_isOnTarget, Cond.selects RX0 yX0_isOnTarget yX0_isOnTarget, Cond.code yX0_isOnTarget cX0_isOnTarget 3 (some .boolean), Cond.methodLink RX0 81 Lib.MathLoose.abs_long.x, Cond.static Lib.MathLoose.abs_long.x, Cond.initialized "java/lang/Math", Cond.code Lib.MathLoose.abs_long.x Lib.MathLoose.abs_long.code 2 (some .long)]
def wsX5_arrives_r4 : List Cond := [Cond.methodLink RX0 87 yX0_aside, Cond.instanceMethod yX0_aside, Cond.selects RX0 yX0_aside yX0_aside, Cond.code yX0_aside cX0_aside 2 (some .long), Cond.methodLink RX0 63 yX0_rate, Cond.instanceMethod yX0_rate, Cond.selects RX0 yX0_rate yX0_rate, Cond.code yX0_rate cX0_rate 2 (some .long), Cond.static yX5_quotient, Cond.code yX5_quotient cX5_quotient 4 (some .long), Cond.methodLink RX5 214 yJ9_floorDiv_f86c9, Cond.static yJ9_floorDiv_f86c9, Cond.initialized RJ9, Cond.code yJ9_floorDiv_f86c9 cJ9_floorDiv_f86c9 6 (some .long), Cond.methodLink RX5 131 yX5_passOne, Cond.instanceMethod yX5_passOne, Cond.selects RX5 yX5_passOne yX5_passOne, Cond.code yX5_passOne cX5_passOne 2 none, Cond.fieldLink RX5 121 "WheelDesk$Craft" "now" "I", Cond.fieldLink RX5 29 "WheelDesk" "magnets" "LWheelDesk$Magnets;", Cond.methodLink RX5 219 yX0_findWish, Cond.instanceMethod yX0_findWish, Cond.selects RX0 yX0_findWish yX0_findWish, Cond.code yX0_findWish cX0_findWish 12 none]
def wsX5_arrives_r5 : List Cond := [Cond.constantLong RX0 90 (100), Cond.static yX5_limited, Cond.code yX5_limited cX5_limited 6 (some .long), Cond.methodLink RX5 222 yX3_share, Cond.instanceMethod yX3_share, Cond.selects RX3 yX3_share yX3_share, Cond.code yX3_share cX3_share 3 none, Cond.fieldLink RX3 70 "WheelDesk$Wheel" "got" "I", Cond.fieldLink RX3 79 "WheelDesk$Craft" "wished" "[J", Cond.methodLink RX3 58 yX3_spans, Cond.instanceMethod yX3_spans, Cond.selects RX3 yX3_spans yX3_spans, Cond.code yX3_spans cX3_spans 1 (some .boolean), Cond.methodLink RX3 73 yX0_tellNoSpan, Cond.instanceMethod yX0_tellNoSpan, Cond.selects RX0 yX0_tellNoSpan yX0_tellNoSpan, Cond.code yX0_tellNoSpan cX0_tellNoSpan 2 none, Cond.fieldLink RX0 100 "WheelDesk$Wheel" "failed" "Z", Cond.methodLink RX3 76 yX0_tellMet, Cond.instanceMethod yX0_tellMet, Cond.selects RX0 yX0_tellMet yX0_tellMet, Cond.code yX0_tellMet cX0_tellMet 1 none, Cond.methodLink RX3 82 yX3_aim, Cond.instanceMethod yX3_aim]
def wsX5_arrives_r6 : List Cond := [Cond.selects RX3 yX3_aim yX3_aim, Cond.code yX3_aim cX3_aim 8 none, Cond.fieldLink RX3 19 "WheelDesk$Sharing" "aimed" "[J", Cond.methodLink RX3 86 yX3_give, Cond.instanceMethod yX3_give, Cond.selects RX3 yX3_give yX3_give, Cond.code yX3_give cX3_give 11 none, Cond.fieldLink RX3 101 "WheelDesk$Wheel" "momentum" "I", Cond.fieldLink RX3 104 "WheelDesk$Craft" "momentum" "[J", Cond.methodLink RX3 90 yX3_wishOf, Cond.instanceMethod yX3_wishOf, Cond.selects RX3 yX3_wishOf yX3_wishOf, Cond.code yX3_wishOf cX3_wishOf 5 (some .long), Cond.constantLong RX3 62 (2), Cond.methodLink RX3 64 yJ9_floorDiv_f86c9, Cond.methodLink RX3 94 yX4_allowedByTorque, Cond.instanceMethod yX4_allowedByTorque, Cond.selects RX4 yX4_allowedByTorque yX4_allowedByTorque, Cond.code yX4_allowedByTorque cX4_allowedByTorque 3 (some .long), Cond.methodLink RX3 98 yX4_allowedByMomentum, Cond.instanceMethod yX4_allowedByMomentum, Cond.selects RX4 yX4_allowedByMomentum yX4_allowedByMomentum, Cond.code yX4_allowedByMomentum cX4_allowedByMomentum 7 (some .long), Cond.methodLink RX4 42 Lib.Math.min.name]
def wsX5_arrives_r7 : List Cond := [Cond.static Lib.Math.min.name, Cond.code Lib.Math.min.name Lib.Math.min.code 2 (some .int), Cond.methodLink RX4 48 Lib.Math.max.name, Cond.static Lib.Math.max.name, Cond.code Lib.Math.max.name Lib.Math.max.code 2 (some .int), Cond.methodLink RX3 106 yX0_isMet, Cond.instanceMethod yX0_isMet, Cond.selects RX0 yX0_isMet yX0_isMet, Cond.code yX0_isMet cX0_isMet 1 (some .boolean), Cond.methodLink RX3 109 yX0_tellLimited, Cond.instanceMethod yX0_tellLimited, Cond.selects RX0 yX0_tellLimited yX0_tellLimited, Cond.code yX0_tellLimited cX0_tellLimited 3 none, Cond.methodLink RX5 225 yX2_letGo, Cond.instanceMethod yX2_letGo, Cond.selects RX2 yX2_letGo yX2_letGo, Cond.initialized RX2, Cond.code yX2_letGo cX2_letGo 6 none, Cond.fieldLink RX2 18 "WheelDesk$Craft" "given" "[[I", Cond.fieldLink RX2 24 "WheelDesk$Craft" "settings" "[I", Cond.fieldLink RX2 9 "WheelDesk$Magnets" "held" "[J", Cond.fieldLink RX2 15 "WheelDesk$Magnets" "moment" "[J", Cond.constantLong RX2 36 (1000), Cond.constantLong RX2 46 (100)]
def wsX5_arrives_r8 : List Cond := [Cond.methodLink RX2 28 yX0_wheelMomentum, Cond.instanceMethod yX0_wheelMomentum, Cond.selects RX0 yX0_wheelMomentum yX0_wheelMomentum, Cond.code yX0_wheelMomentum cX0_wheelMomentum 5 (some .long), Cond.fieldLink RX0 76 "WheelDesk$Wheel" "direction" "[I", Cond.fieldLink RX0 79 "WheelDesk$Wheel" "momentum" "I", Cond.methodLink RX2 32 yX2_crossed, Cond.static yX2_crossed, Cond.code yX2_crossed cX2_crossed 5 (some .long), Cond.methodLink RX2 48 yX0_pushFromOutside, Cond.instanceMethod yX0_pushFromOutside, Cond.selects RX0 yX0_pushFromOutside yX0_pushFromOutside, Cond.code yX0_pushFromOutside cX0_pushFromOutside 4 none, Cond.methodLink RX5 228 yX0_disturb, Cond.instanceMethod yX0_disturb, Cond.selects RX0 yX0_disturb yX0_disturb, Cond.code yX0_disturb cX0_disturb 2 none, Cond.methodLink RX0 96 yX0_pushFromOutside, Cond.methodLink RX5 231 yX0_turn, Cond.instanceMethod yX0_turn, Cond.selects RX0 yX0_turn yX0_turn, Cond.code yX0_turn cX0_turn 2 none]
def wsX5_arrives : List Cond := .code yX5_arrives cX5_arrives 3 (some .int) :: ((wsX5_arrives_r1 ++ (wsX5_arrives_r2 ++ (wsX5_arrives_r3 ++ (wsX5_arrives_r4 ++ (wsX5_arrives_r5 ++ (wsX5_arrives_r6 ++ (wsX5_arrives_r7 ++ wsX5_arrives_r8))))))) ++ wsX50 ++ wsX00 ++ wsX40 ++ wsX30 ++ wsX20)
def wsX5_spare_r1 : List Cond := [Cond.fieldLink RX5 10 "WheelDesk" "craft" "LWheelDesk$Craft;", Cond.fieldLink RX5 50 "WheelDesk$Craft" "wheelCount" "I", Cond.fieldLink RX5 22 "WheelDesk" "sharing" "LWheelDesk$Sharing;", Cond.fieldLink RX5 59 "WheelDesk$Craft" "wheelRow" "[LWheelDesk$Wheel;", Cond.fieldLink RX5 73 "WheelDesk$Wheel" "failed" "Z", Cond.methodLink RX5 127 yX3_measure, Cond.instanceMethod yX3_measure, Cond.selects RX3 yX3_measure yX3_measure, Cond.initialized RX3, Cond.code yX3_measure cX3_measure 5 none, Cond.fieldLink RX3 11 "WheelDesk$Sharing" "matrix" "[[J", Cond.fieldLink RX3 23 "WheelDesk$Craft" "wheelCount" "I", Cond.fieldLink RX3 29 "WheelDesk$Craft" "wheelRow" "[LWheelDesk$Wheel;", Cond.fieldLink RX3 33 "WheelDesk$Wheel" "failed" "Z", Cond.fieldLink RX3 39 "WheelDesk$Wheel" "direction" "[I", Cond.fieldLink RX3 50 "WheelDesk$Sharing" "determinant" "J", Cond.fieldLink RX3 16 "WheelDesk$Sharing" "cofactor" "[[J", Cond.methodLink RX3 43 yX3_addProducts, Cond.instanceMethod yX3_addProducts, Cond.selects RX3 yX3_addProducts yX3_addProducts, Cond.code yX3_addProducts cX3_addProducts 4 none, Cond.methodLink RX3 47 yX3_findCofactors, Cond.instanceMethod yX3_findCofactors, Cond.selects RX3 yX3_findCofactors yX3_findCofactors]
def wsX5_spare_r2 : List Cond := [Cond.code yX3_findCofactors cX3_findCofactors 7 none, Cond.static yX5_axisAfter, Cond.initialized RX5, Cond.code yX5_axisAfter cX5_axisAfter 2 (some .int), Cond.methodLink RX5 148 yX3_spans, Cond.instanceMethod yX3_spans, Cond.selects RX3 yX3_spans yX3_spans, Cond.code yX3_spans cX3_spans 1 (some .boolean)]
def wsX5_spare : List Cond := .code yX5_spare cX5_spare 3 (some .int) :: ((wsX5_spare_r1 ++ wsX5_spare_r2) ++ wsX50 ++ wsX00 ++ wsX40 ++ wsX30)
def wsX5_offWithout_r1 : List Cond := [Cond.fieldLink RX5 16 "WheelDesk" "trial" "LWheelDesk$Craft;", Cond.fieldLink RX5 10 "WheelDesk" "craft" "LWheelDesk$Craft;", Cond.fieldLink RX5 59 "WheelDesk$Craft" "wheelRow" "[LWheelDesk$Wheel;", Cond.fieldLink RX5 73 "WheelDesk$Wheel" "failed" "Z", Cond.fieldLink RX5 22 "WheelDesk" "sharing" "LWheelDesk$Sharing;", Cond.constant RX5 126 (-2000009), Cond.methodLink RX5 169 yX0_become, Cond.instanceMethod yX0_become, Cond.selects RX0 yX0_become yX0_become, Cond.initialized RX0, Cond.code yX0_become cX0_become 3 none, Cond.fieldLink RX0 47 "WheelDesk$Craft" "now" "I", Cond.fieldLink RX0 9 "WheelDesk$Craft" "settings" "[I", Cond.methodLink RX0 50 arraycopyName, Cond.native arraycopyName, Cond.static arraycopyName, Cond.initialized "java/lang/System", Cond.fieldLink RX0 17 "WheelDesk$Craft" "given" "[[I", Cond.fieldLink RX0 20 "WheelDesk$Craft" "angle" "[J", Cond.fieldLink RX0 24 "WheelDesk$Craft" "momentum" "[J", Cond.fieldLink RX0 27 "WheelDesk$Craft" "outside" "[J", Cond.fieldLink RX0 30 "WheelDesk$Craft" "wished" "[J", Cond.fieldLink RX0 56 "WheelDesk$Craft" "wheelCount" "I", Cond.fieldLink RX0 35 "WheelDesk$Craft" "wheelRow" "[LWheelDesk$Wheel;"]
def wsX5_offWithout_r2 : List Cond := [Cond.fieldLink RX0 39 "WheelDesk$Craft" "reasons" "[I", Cond.fieldLink RX0 43 "WheelDesk$Craft" "reasonCount" "I", Cond.methodLink RX0 59 yX4_become, Cond.instanceMethod yX4_become, Cond.selects RX4 yX4_become yX4_become, Cond.initialized RX4, Cond.code yX4_become cX4_become 2 none, Cond.fieldLink RX4 9 "WheelDesk$Wheel" "direction" "[I", Cond.methodLink RX4 32 arraycopyName, Cond.fieldLink RX4 15 "WheelDesk$Wheel" "momentum" "I", Cond.fieldLink RX4 19 "WheelDesk$Wheel" "mostMomentum" "I", Cond.fieldLink RX4 22 "WheelDesk$Wheel" "mostTorque" "I", Cond.fieldLink RX4 25 "WheelDesk$Wheel" "failed" "Z", Cond.fieldLink RX4 29 "WheelDesk$Wheel" "got" "I", Cond.methodLink RX5 127 yX3_measure, Cond.instanceMethod yX3_measure, Cond.selects RX3 yX3_measure yX3_measure, Cond.initialized RX3, Cond.code yX3_measure cX3_measure 5 none, Cond.fieldLink RX3 11 "WheelDesk$Sharing" "matrix" "[[J", Cond.fieldLink RX3 23 "WheelDesk$Craft" "wheelCount" "I", Cond.fieldLink RX3 29 "WheelDesk$Craft" "wheelRow" "[LWheelDesk$Wheel;", Cond.fieldLink RX3 33 "WheelDesk$Wheel" "failed" "Z", Cond.fieldLink RX3 39 "WheelDesk$Wheel" "direction" "[I"]
def wsX5_offWithout_r3 : List Cond := [Cond.fieldLink RX3 50 "WheelDesk$Sharing" "determinant" "J", Cond.fieldLink RX3 16 "WheelDesk$Sharing" "cofactor" "[[J", Cond.methodLink RX3 43 yX3_addProducts, Cond.instanceMethod yX3_addProducts, Cond.selects RX3 yX3_addProducts yX3_addProducts, Cond.code yX3_addProducts cX3_addProducts 4 none, Cond.methodLink RX3 47 yX3_findCofactors, Cond.instanceMethod yX3_findCofactors, Cond.selects RX3 yX3_findCofactors yX3_findCofactors, Cond.code yX3_findCofactors cX3_findCofactors 7 none, Cond.static yX5_axisAfter, Cond.initialized RX5, Cond.code yX5_axisAfter cX5_axisAfter 2 (some .int), Cond.methodLink RX5 131 yX5_passOne, Cond.instanceMethod yX5_passOne, Cond.selects RX5 yX5_passOne yX5_passOne, Cond.code yX5_passOne cX5_passOne 2 none, Cond.fieldLink RX5 121 "WheelDesk$Craft" "now" "I", Cond.fieldLink RX5 29 "WheelDesk" "magnets" "LWheelDesk$Magnets;", Cond.methodLink RX5 219 yX0_findWish, Cond.instanceMethod yX0_findWish, Cond.selects RX0 yX0_findWish yX0_findWish, Cond.code yX0_findWish cX0_findWish 12 none, Cond.constantLong RX0 90 (100)]
def wsX5_offWithout_r4 : List Cond := [Cond.static yX5_quotient, Cond.code yX5_quotient cX5_quotient 4 (some .long), Cond.methodLink RX5 214 yJ9_floorDiv_f86c9, Cond.static yJ9_floorDiv_f86c9, Cond.initialized RJ9, Cond.code yJ9_floorDiv_f86c9 cJ9_floorDiv_f86c9 6 (some .long), Cond.static yX5_limited, Cond.code yX5_limited cX5_limited 6 (some .long), Cond.methodLink RX0 63 yX0_rate, Cond.instanceMethod yX0_rate, Cond.selects RX0 yX0_rate yX0_rate, Cond.code yX0_rate cX0_rate 2 (some .long), Cond.methodLink RX5 222 yX3_share, Cond.instanceMethod yX3_share, Cond.selects RX3 yX3_share yX3_share, Cond.code yX3_share cX3_share 3 none, Cond.fieldLink RX3 70 "WheelDesk$Wheel" "got" "I", Cond.fieldLink RX3 79 "WheelDesk$Craft" "wished" "[J", Cond.methodLink RX3 58 yX3_spans, Cond.instanceMethod yX3_spans, Cond.selects RX3 yX3_spans yX3_spans, Cond.code yX3_spans cX3_spans 1 (some .boolean), Cond.methodLink RX3 73 yX0_tellNoSpan, Cond.instanceMethod yX0_tellNoSpan]
def wsX5_offWithout_r5 : List Cond := [Cond.selects RX0 yX0_tellNoSpan yX0_tellNoSpan, Cond.code yX0_tellNoSpan cX0_tellNoSpan 2 none, Cond.fieldLink RX0 100 "WheelDesk$Wheel" "failed" "Z", Cond.methodLink RX3 76 yX0_tellMet, Cond.instanceMethod yX0_tellMet, Cond.selects RX0 yX0_tellMet yX0_tellMet, Cond.code yX0_tellMet cX0_tellMet 1 none, Cond.methodLink RX3 82 yX3_aim, Cond.instanceMethod yX3_aim, Cond.selects RX3 yX3_aim yX3_aim, Cond.code yX3_aim cX3_aim 8 none, Cond.fieldLink RX3 19 "WheelDesk$Sharing" "aimed" "[J", Cond.methodLink RX3 86 yX3_give, Cond.instanceMethod yX3_give, Cond.selects RX3 yX3_give yX3_give, Cond.code yX3_give cX3_give 11 none, Cond.fieldLink RX3 101 "WheelDesk$Wheel" "momentum" "I", Cond.fieldLink RX3 104 "WheelDesk$Craft" "momentum" "[J", Cond.methodLink RX3 90 yX3_wishOf, Cond.instanceMethod yX3_wishOf, Cond.selects RX3 yX3_wishOf yX3_wishOf, Cond.code yX3_wishOf cX3_wishOf 5 (some .long), Cond.constantLong RX3 62 (2), Cond.methodLink RX3 64 yJ9_floorDiv_f86c9]
def wsX5_offWithout_r6 : List Cond := [Cond.methodLink RX3 94 yX4_allowedByTorque, Cond.instanceMethod yX4_allowedByTorque, Cond.selects RX4 yX4_allowedByTorque yX4_allowedByTorque, Cond.code yX4_allowedByTorque cX4_allowedByTorque 3 (some .long), Cond.methodLink RX3 98 yX4_allowedByMomentum, Cond.instanceMethod yX4_allowedByMomentum, Cond.selects RX4 yX4_allowedByMomentum yX4_allowedByMomentum, Cond.code yX4_allowedByMomentum cX4_allowedByMomentum 7 (some .long), Cond.methodLink RX4 42 Lib.Math.min.name, Cond.static Lib.Math.min.name, Cond.initialized "java/lang/Math", Cond.code Lib.Math.min.name Lib.Math.min.code 2 (some .int), Cond.methodLink RX4 48 Lib.Math.max.name, Cond.static Lib.Math.max.name, Cond.code Lib.Math.max.name Lib.Math.max.code 2 (some .int), Cond.methodLink RX3 106 yX0_isMet, Cond.instanceMethod yX0_isMet, Cond.selects RX0 yX0_isMet yX0_isMet, Cond.code yX0_isMet cX0_isMet 1 (some .boolean), Cond.methodLink RX3 109 yX0_tellLimited, Cond.instanceMethod yX0_tellLimited, Cond.selects RX0 yX0_tellLimited yX0_tellLimited, Cond.code yX0_tellLimited cX0_tellLimited 3 none, Cond.methodLink RX5 225 yX2_letGo]
def wsX5_offWithout_r7 : List Cond := [Cond.instanceMethod yX2_letGo, Cond.selects RX2 yX2_letGo yX2_letGo, Cond.initialized RX2, Cond.code yX2_letGo cX2_letGo 6 none, Cond.fieldLink RX2 18 "WheelDesk$Craft" "given" "[[I", Cond.fieldLink RX2 24 "WheelDesk$Craft" "settings" "[I", Cond.fieldLink RX2 9 "WheelDesk$Magnets" "held" "[J", Cond.fieldLink RX2 15 "WheelDesk$Magnets" "moment" "[J", Cond.constantLong RX2 36 (1000), Cond.constantLong RX2 46 (100), Cond.methodLink RX2 28 yX0_wheelMomentum, Cond.instanceMethod yX0_wheelMomentum, Cond.selects RX0 yX0_wheelMomentum yX0_wheelMomentum, Cond.code yX0_wheelMomentum cX0_wheelMomentum 5 (some .long), Cond.fieldLink RX0 76 "WheelDesk$Wheel" "direction" "[I", Cond.fieldLink RX0 79 "WheelDesk$Wheel" "momentum" "I", Cond.methodLink RX2 32 yX2_crossed, Cond.static yX2_crossed, Cond.code yX2_crossed cX2_crossed 5 (some .long), Cond.methodLink RX2 48 yX0_pushFromOutside, Cond.instanceMethod yX0_pushFromOutside, Cond.selects RX0 yX0_pushFromOutside yX0_pushFromOutside, Cond.code yX0_pushFromOutside cX0_pushFromOutside 4 none, Cond.methodLink RX5 228 yX0_disturb]
def wsX5_offWithout_r8 : List Cond := [Cond.instanceMethod yX0_disturb, Cond.selects RX0 yX0_disturb yX0_disturb, Cond.code yX0_disturb cX0_disturb 2 none, Cond.methodLink RX0 96 yX0_pushFromOutside, Cond.methodLink RX5 231 yX0_turn, Cond.instanceMethod yX0_turn, Cond.selects RX0 yX0_turn yX0_turn, Cond.code yX0_turn cX0_turn 2 none, Cond.methodLink RX5 234 yX0_offTarget, Cond.instanceMethod yX0_offTarget, Cond.selects RX0 yX0_offTarget yX0_offTarget, Cond.code yX0_offTarget cX0_offTarget 4 (some .long), Cond.methodLink RX0 87 yX0_aside, Cond.instanceMethod yX0_aside, Cond.selects RX0 yX0_aside yX0_aside, Cond.code yX0_aside cX0_aside 2 (some .long), Cond.methodLink RX0 81 Lib.MathLoose.abs_long.x, Cond.static Lib.MathLoose.abs_long.x, Cond.code Lib.MathLoose.abs_long.x Lib.MathLoose.abs_long.code 2 (some .long)]
def wsX5_offWithout : List Cond := .code yX5_offWithout cX5_offWithout 4 (some .long) :: ((wsX5_offWithout_r1 ++ (wsX5_offWithout_r2 ++ (wsX5_offWithout_r3 ++ (wsX5_offWithout_r4 ++ (wsX5_offWithout_r5 ++ (wsX5_offWithout_r6 ++ (wsX5_offWithout_r7 ++ wsX5_offWithout_r8))))))) ++ wsX50 ++ wsX00 ++ wsX40 ++ wsX30 ++ wsX20)
def wsX5_gravest_r1 : List Cond := [Cond.constant RX5 49 (-2000001), Cond.constant RX5 126 (-2000009), Cond.fieldLink RX5 10 "WheelDesk" "craft" "LWheelDesk$Craft;", Cond.fieldLink RX5 50 "WheelDesk$Craft" "wheelCount" "I", Cond.fieldLink RX5 59 "WheelDesk$Craft" "wheelRow" "[LWheelDesk$Wheel;", Cond.fieldLink RX5 73 "WheelDesk$Wheel" "failed" "Z", Cond.methodLink RX5 45 yX5_isWithin, Cond.static yX5_isWithin, Cond.initialized RX5, Cond.code yX5_isWithin cX5_isWithin 3 (some .boolean), Cond.methodLink RX5 175 yX5_offWithout, Cond.instanceMethod yX5_offWithout, Cond.selects RX5 yX5_offWithout yX5_offWithout, Cond.code yX5_offWithout cX5_offWithout 4 (some .long), Cond.fieldLink RX5 16 "WheelDesk" "trial" "LWheelDesk$Craft;", Cond.fieldLink RX5 22 "WheelDesk" "sharing" "LWheelDesk$Sharing;", Cond.methodLink RX5 169 yX0_become, Cond.instanceMethod yX0_become, Cond.selects RX0 yX0_become yX0_become, Cond.initialized RX0, Cond.code yX0_become cX0_become 3 none, Cond.fieldLink RX0 47 "WheelDesk$Craft" "now" "I", Cond.fieldLink RX0 9 "WheelDesk$Craft" "settings" "[I", Cond.methodLink RX0 50 arraycopyName]
def wsX5_gravest_r2 : List Cond := [Cond.native arraycopyName, Cond.static arraycopyName, Cond.initialized "java/lang/System", Cond.fieldLink RX0 17 "WheelDesk$Craft" "given" "[[I", Cond.fieldLink RX0 20 "WheelDesk$Craft" "angle" "[J", Cond.fieldLink RX0 24 "WheelDesk$Craft" "momentum" "[J", Cond.fieldLink RX0 27 "WheelDesk$Craft" "outside" "[J", Cond.fieldLink RX0 30 "WheelDesk$Craft" "wished" "[J", Cond.fieldLink RX0 56 "WheelDesk$Craft" "wheelCount" "I", Cond.fieldLink RX0 35 "WheelDesk$Craft" "wheelRow" "[LWheelDesk$Wheel;", Cond.fieldLink RX0 39 "WheelDesk$Craft" "reasons" "[I", Cond.fieldLink RX0 43 "WheelDesk$Craft" "reasonCount" "I", Cond.methodLink RX0 59 yX4_become, Cond.instanceMethod yX4_become, Cond.selects RX4 yX4_become yX4_become, Cond.initialized RX4, Cond.code yX4_become cX4_become 2 none, Cond.fieldLink RX4 9 "WheelDesk$Wheel" "direction" "[I", Cond.methodLink RX4 32 arraycopyName, Cond.fieldLink RX4 15 "WheelDesk$Wheel" "momentum" "I", Cond.fieldLink RX4 19 "WheelDesk$Wheel" "mostMomentum" "I", Cond.fieldLink RX4 22 "WheelDesk$Wheel" "mostTorque" "I", Cond.fieldLink RX4 25 "WheelDesk$Wheel" "failed" "Z", Cond.fieldLink RX4 29 "WheelDesk$Wheel" "got" "I"]
def wsX5_gravest_r3 : List Cond := [Cond.methodLink RX5 127 yX3_measure, Cond.instanceMethod yX3_measure, Cond.selects RX3 yX3_measure yX3_measure, Cond.initialized RX3, Cond.code yX3_measure cX3_measure 5 none, Cond.fieldLink RX3 11 "WheelDesk$Sharing" "matrix" "[[J", Cond.fieldLink RX3 23 "WheelDesk$Craft" "wheelCount" "I", Cond.fieldLink RX3 29 "WheelDesk$Craft" "wheelRow" "[LWheelDesk$Wheel;", Cond.fieldLink RX3 33 "WheelDesk$Wheel" "failed" "Z", Cond.fieldLink RX3 39 "WheelDesk$Wheel" "direction" "[I", Cond.fieldLink RX3 50 "WheelDesk$Sharing" "determinant" "J", Cond.fieldLink RX3 16 "WheelDesk$Sharing" "cofactor" "[[J", Cond.methodLink RX3 43 yX3_addProducts, Cond.instanceMethod yX3_addProducts, Cond.selects RX3 yX3_addProducts yX3_addProducts, Cond.code yX3_addProducts cX3_addProducts 4 none, Cond.methodLink RX3 47 yX3_findCofactors, Cond.instanceMethod yX3_findCofactors, Cond.selects RX3 yX3_findCofactors yX3_findCofactors, Cond.code yX3_findCofactors cX3_findCofactors 7 none, Cond.static yX5_axisAfter, Cond.code yX5_axisAfter cX5_axisAfter 2 (some .int), Cond.methodLink RX5 131 yX5_passOne, Cond.instanceMethod yX5_passOne]
def wsX5_gravest_r4 : List Cond := [Cond.selects RX5 yX5_passOne yX5_passOne, Cond.code yX5_passOne cX5_passOne 2 none, Cond.fieldLink RX5 121 "WheelDesk$Craft" "now" "I", Cond.fieldLink RX5 29 "WheelDesk" "magnets" "LWheelDesk$Magnets;", Cond.methodLink RX5 219 yX0_findWish, Cond.instanceMethod yX0_findWish, Cond.selects RX0 yX0_findWish yX0_findWish, Cond.code yX0_findWish cX0_findWish 12 none, Cond.constantLong RX0 90 (100), Cond.static yX5_quotient, Cond.code yX5_quotient cX5_quotient 4 (some .long), Cond.methodLink RX5 214 yJ9_floorDiv_f86c9, Cond.static yJ9_floorDiv_f86c9, Cond.initialized RJ9, Cond.code yJ9_floorDiv_f86c9 cJ9_floorDiv_f86c9 6 (some .long), Cond.static yX5_limited, Cond.code yX5_limited cX5_limited 6 (some .long), Cond.methodLink RX0 63 yX0_rate, Cond.instanceMethod yX0_rate, Cond.selects RX0 yX0_rate yX0_rate, Cond.code yX0_rate cX0_rate 2 (some .long), Cond.methodLink RX5 222 yX3_share, Cond.instanceMethod yX3_share, Cond.selects RX3 yX3_share yX3_share]
def wsX5_gravest_r5 : List Cond := [Cond.code yX3_share cX3_share 3 none, Cond.fieldLink RX3 70 "WheelDesk$Wheel" "got" "I", Cond.fieldLink RX3 79 "WheelDesk$Craft" "wished" "[J", Cond.methodLink RX3 58 yX3_spans, Cond.instanceMethod yX3_spans, Cond.selects RX3 yX3_spans yX3_spans, Cond.code yX3_spans cX3_spans 1 (some .boolean), Cond.methodLink RX3 73 yX0_tellNoSpan, Cond.instanceMethod yX0_tellNoSpan, Cond.selects RX0 yX0_tellNoSpan yX0_tellNoSpan, Cond.code yX0_tellNoSpan cX0_tellNoSpan 2 none, Cond.fieldLink RX0 100 "WheelDesk$Wheel" "failed" "Z", Cond.methodLink RX3 76 yX0_tellMet, Cond.instanceMethod yX0_tellMet, Cond.selects RX0 yX0_tellMet yX0_tellMet, Cond.code yX0_tellMet cX0_tellMet 1 none, Cond.methodLink RX3 82 yX3_aim, Cond.instanceMethod yX3_aim, Cond.selects RX3 yX3_aim yX3_aim, Cond.code yX3_aim cX3_aim 8 none, Cond.fieldLink RX3 19 "WheelDesk$Sharing" "aimed" "[J", Cond.methodLink RX3 86 yX3_give, Cond.instanceMethod yX3_give, Cond.selects RX3 yX3_give yX3_give]
def wsX5_gravest_r6 : List Cond := [Cond.code yX3_give cX3_give 11 none, Cond.fieldLink RX3 101 "WheelDesk$Wheel" "momentum" "I", Cond.fieldLink RX3 104 "WheelDesk$Craft" "momentum" "[J", Cond.methodLink RX3 90 yX3_wishOf, Cond.instanceMethod yX3_wishOf, Cond.selects RX3 yX3_wishOf yX3_wishOf, Cond.code yX3_wishOf cX3_wishOf 5 (some .long), Cond.constantLong RX3 62 (2), Cond.methodLink RX3 64 yJ9_floorDiv_f86c9, Cond.methodLink RX3 94 yX4_allowedByTorque, Cond.instanceMethod yX4_allowedByTorque, Cond.selects RX4 yX4_allowedByTorque yX4_allowedByTorque, Cond.code yX4_allowedByTorque cX4_allowedByTorque 3 (some .long), Cond.methodLink RX3 98 yX4_allowedByMomentum, Cond.instanceMethod yX4_allowedByMomentum, Cond.selects RX4 yX4_allowedByMomentum yX4_allowedByMomentum, Cond.code yX4_allowedByMomentum cX4_allowedByMomentum 7 (some .long), Cond.methodLink RX4 42 Lib.Math.min.name, Cond.static Lib.Math.min.name, Cond.initialized "java/lang/Math", Cond.code Lib.Math.min.name Lib.Math.min.code 2 (some .int), Cond.methodLink RX4 48 Lib.Math.max.name, Cond.static Lib.Math.max.name, Cond.code Lib.Math.max.name Lib.Math.max.code 2 (some .int)]
def wsX5_gravest_r7 : List Cond := [Cond.methodLink RX3 106 yX0_isMet, Cond.instanceMethod yX0_isMet, Cond.selects RX0 yX0_isMet yX0_isMet, Cond.code yX0_isMet cX0_isMet 1 (some .boolean), Cond.methodLink RX3 109 yX0_tellLimited, Cond.instanceMethod yX0_tellLimited, Cond.selects RX0 yX0_tellLimited yX0_tellLimited, Cond.code yX0_tellLimited cX0_tellLimited 3 none, Cond.methodLink RX5 225 yX2_letGo, Cond.instanceMethod yX2_letGo, Cond.selects RX2 yX2_letGo yX2_letGo, Cond.initialized RX2, Cond.code yX2_letGo cX2_letGo 6 none, Cond.fieldLink RX2 18 "WheelDesk$Craft" "given" "[[I", Cond.fieldLink RX2 24 "WheelDesk$Craft" "settings" "[I", Cond.fieldLink RX2 9 "WheelDesk$Magnets" "held" "[J", Cond.fieldLink RX2 15 "WheelDesk$Magnets" "moment" "[J", Cond.constantLong RX2 36 (1000), Cond.constantLong RX2 46 (100), Cond.methodLink RX2 28 yX0_wheelMomentum, Cond.instanceMethod yX0_wheelMomentum, Cond.selects RX0 yX0_wheelMomentum yX0_wheelMomentum, Cond.code yX0_wheelMomentum cX0_wheelMomentum 5 (some .long), Cond.fieldLink RX0 76 "WheelDesk$Wheel" "direction" "[I"]
def wsX5_gravest_r8 : List Cond := [Cond.fieldLink RX0 79 "WheelDesk$Wheel" "momentum" "I", Cond.methodLink RX2 32 yX2_crossed, Cond.static yX2_crossed, Cond.code yX2_crossed cX2_crossed 5 (some .long), Cond.methodLink RX2 48 yX0_pushFromOutside, Cond.instanceMethod yX0_pushFromOutside, Cond.selects RX0 yX0_pushFromOutside yX0_pushFromOutside, Cond.code yX0_pushFromOutside cX0_pushFromOutside 4 none, Cond.methodLink RX5 228 yX0_disturb, Cond.instanceMethod yX0_disturb, Cond.selects RX0 yX0_disturb yX0_disturb, Cond.code yX0_disturb cX0_disturb 2 none, Cond.methodLink RX0 96 yX0_pushFromOutside, Cond.methodLink RX5 231 yX0_turn, Cond.instanceMethod yX0_turn, Cond.selects RX0 yX0_turn yX0_turn, Cond.code yX0_turn cX0_turn 2 none, Cond.methodLink RX5 234 yX0_offTarget, Cond.instanceMethod yX0_offTarget, Cond.selects RX0 yX0_offTarget yX0_offTarget, Cond.code yX0_offTarget cX0_offTarget 4 (some .long), Cond.methodLink RX0 87 yX0_aside, Cond.instanceMethod yX0_aside, Cond.selects RX0 yX0_aside yX0_aside]
def wsX5_gravest_r9 : List Cond := [Cond.code yX0_aside cX0_aside 2 (some .long), Cond.methodLink RX0 81 Lib.MathLoose.abs_long.x, Cond.static Lib.MathLoose.abs_long.x, Cond.code Lib.MathLoose.abs_long.x Lib.MathLoose.abs_long.code 2 (some .long)]
def wsX5_gravest : List Cond := .code yX5_gravest cX5_gravest 8 (some .int) :: ((wsX5_gravest_r1 ++ (wsX5_gravest_r2 ++ (wsX5_gravest_r3 ++ (wsX5_gravest_r4 ++ (wsX5_gravest_r5 ++ (wsX5_gravest_r6 ++ (wsX5_gravest_r7 ++ (wsX5_gravest_r8 ++ wsX5_gravest_r9)))))))) ++ wsX50 ++ wsX00 ++ wsX40 ++ wsX30 ++ wsX20)
def wsX5_undo_r1 : List Cond := [Cond.fieldLink RX5 36 "WheelDesk" "history" "LWheelDesk$History;", Cond.fieldLink RX5 10 "WheelDesk" "craft" "LWheelDesk$Craft;", Cond.methodLink RX5 178 yX1_giveBack, Cond.instanceMethod yX1_giveBack, Cond.selects RX1 yX1_giveBack yX1_giveBack, Cond.initialized RX1, Cond.code yX1_giveBack cX1_giveBack 2 (some .int), Cond.fieldLink RX1 18 "WheelDesk$History" "kept" "I", Cond.constant RX1 29 (-2000009), Cond.fieldLink RX1 11 "WheelDesk$History" "states" "[LWheelDesk$Craft;", Cond.methodLink RX1 25 yX0_become, Cond.instanceMethod yX0_become, Cond.selects RX0 yX0_become yX0_become, Cond.initialized RX0, Cond.code yX0_become cX0_become 3 none, Cond.fieldLink RX0 47 "WheelDesk$Craft" "now" "I", Cond.fieldLink RX0 9 "WheelDesk$Craft" "settings" "[I", Cond.methodLink RX0 50 arraycopyName, Cond.native arraycopyName, Cond.static arraycopyName, Cond.initialized "java/lang/System", Cond.fieldLink RX0 17 "WheelDesk$Craft" "given" "[[I", Cond.fieldLink RX0 20 "WheelDesk$Craft" "angle" "[J", Cond.fieldLink RX0 24 "WheelDesk$Craft" "momentum" "[J"]
def wsX5_undo_r2 : List Cond := [Cond.fieldLink RX0 27 "WheelDesk$Craft" "outside" "[J", Cond.fieldLink RX0 30 "WheelDesk$Craft" "wished" "[J", Cond.fieldLink RX0 56 "WheelDesk$Craft" "wheelCount" "I", Cond.fieldLink RX0 35 "WheelDesk$Craft" "wheelRow" "[LWheelDesk$Wheel;", Cond.fieldLink RX0 39 "WheelDesk$Craft" "reasons" "[I", Cond.fieldLink RX0 43 "WheelDesk$Craft" "reasonCount" "I", Cond.methodLink RX0 59 yX4_become, Cond.instanceMethod yX4_become, Cond.selects RX4 yX4_become yX4_become, Cond.initialized RX4, Cond.code yX4_become cX4_become 2 none, Cond.fieldLink RX4 9 "WheelDesk$Wheel" "direction" "[I", Cond.methodLink RX4 32 arraycopyName, Cond.fieldLink RX4 15 "WheelDesk$Wheel" "momentum" "I", Cond.fieldLink RX4 19 "WheelDesk$Wheel" "mostMomentum" "I", Cond.fieldLink RX4 22 "WheelDesk$Wheel" "mostTorque" "I", Cond.fieldLink RX4 25 "WheelDesk$Wheel" "failed" "Z", Cond.fieldLink RX4 29 "WheelDesk$Wheel" "got" "I"]
def wsX5_undo : List Cond := .code yX5_undo cX5_undo 1 (some .int) :: ((wsX5_undo_r1 ++ wsX5_undo_r2) ++ wsX50 ++ wsX10 ++ wsX00 ++ wsX40)
def wsX5_mixed : List Cond := .code yX5_mixed cX5_mixed 4 (some .long) :: ([.constantLong RX5 212 (31)])
def wsX5_fingerprint_r1 : List Cond := [Cond.constantLong RX5 182 (173), Cond.fieldLink RX5 10 "WheelDesk" "craft" "LWheelDesk$Craft;", Cond.fieldLink RX5 50 "WheelDesk$Craft" "wheelCount" "I", Cond.fieldLink RX5 159 "WheelDesk$Craft" "reasonCount" "I", Cond.methodLink RX5 184 yX5_time, Cond.instanceMethod yX5_time, Cond.selects RX5 yX5_time yX5_time, Cond.initialized RX5, Cond.code yX5_time cX5_time 1 (some .int), Cond.fieldLink RX5 121 "WheelDesk$Craft" "now" "I", Cond.methodLink RX5 188 yX5_mixed, Cond.static yX5_mixed, Cond.code yX5_mixed cX5_mixed 4 (some .long), Cond.constantLong RX5 212 (31), Cond.methodLink RX5 192 yX5_setting, Cond.instanceMethod yX5_setting, Cond.selects RX5 yX5_setting yX5_setting, Cond.code yX5_setting cX5_setting 2 (some .int), Cond.fieldLink RX5 107 "WheelDesk$Craft" "settings" "[I", Cond.constant RX5 49 (-2000001), Cond.methodLink RX5 45 yX5_isWithin, Cond.static yX5_isWithin, Cond.code yX5_isWithin cX5_isWithin 3 (some .boolean), Cond.methodLink RX5 195 yX5_axis]
def wsX5_fingerprint_r2 : List Cond := [Cond.instanceMethod yX5_axis, Cond.selects RX5 yX5_axis yX5_axis, Cond.code yX5_axis cX5_axis 3 (some .long), Cond.constantLong RX5 111 (-4611686018427387905), Cond.methodLink RX5 87 yX5_isAxis, Cond.static yX5_isAxis, Cond.code yX5_isAxis cX5_isAxis 1 (some .boolean), Cond.methodLink RX5 138 yX0_number, Cond.instanceMethod yX0_number, Cond.selects RX0 yX0_number yX0_number, Cond.initialized RX0, Cond.code yX0_number cX0_number 3 (some .long), Cond.fieldLink RX0 20 "WheelDesk$Craft" "angle" "[J", Cond.fieldLink RX0 24 "WheelDesk$Craft" "momentum" "[J", Cond.fieldLink RX0 27 "WheelDesk$Craft" "outside" "[J", Cond.fieldLink RX0 30 "WheelDesk$Craft" "wished" "[J", Cond.fieldLink RX0 17 "WheelDesk$Craft" "given" "[[I", Cond.constantLong RX0 70 (-4611686018427387905), Cond.methodLink RX0 63 yX0_rate, Cond.instanceMethod yX0_rate, Cond.selects RX0 yX0_rate yX0_rate, Cond.code yX0_rate cX0_rate 2 (some .long), Cond.static yX5_quotient, Cond.code yX5_quotient cX5_quotient 4 (some .long)]
def wsX5_fingerprint_r3 : List Cond := [Cond.methodLink RX5 214 yJ9_floorDiv_f86c9, Cond.static yJ9_floorDiv_f86c9, Cond.initialized RJ9, Cond.code yJ9_floorDiv_f86c9 cJ9_floorDiv_f86c9 6 (some .long), Cond.methodLink RX0 67 yX0_wheelMomentum, Cond.instanceMethod yX0_wheelMomentum, Cond.selects RX0 yX0_wheelMomentum yX0_wheelMomentum, Cond.code yX0_wheelMomentum cX0_wheelMomentum 5 (some .long), Cond.fieldLink RX0 56 "WheelDesk$Craft" "wheelCount" "I", Cond.fieldLink RX0 35 "WheelDesk$Craft" "wheelRow" "[LWheelDesk$Wheel;", Cond.fieldLink RX0 76 "WheelDesk$Wheel" "direction" "[I", Cond.fieldLink RX0 79 "WheelDesk$Wheel" "momentum" "I", Cond.methodLink RX5 198 yX5_wheels, Cond.instanceMethod yX5_wheels, Cond.selects RX5 yX5_wheels yX5_wheels, Cond.code yX5_wheels cX5_wheels 1 (some .int), Cond.methodLink RX5 201 yX5_wheel, Cond.instanceMethod yX5_wheel, Cond.selects RX5 yX5_wheel yX5_wheel, Cond.code yX5_wheel cX5_wheel 3 (some .int), Cond.fieldLink RX5 59 "WheelDesk$Craft" "wheelRow" "[LWheelDesk$Wheel;", Cond.methodLink RX5 69 yX5_isWheel, Cond.instanceMethod yX5_isWheel, Cond.selects RX5 yX5_isWheel yX5_isWheel]
def wsX5_fingerprint_r4 : List Cond := [Cond.code yX5_isWheel cX5_isWheel 2 (some .boolean), Cond.methodLink RX5 83 yX4_number, Cond.instanceMethod yX4_number, Cond.selects RX4 yX4_number yX4_number, Cond.initialized RX4, Cond.code yX4_number cX4_number 2 (some .int), Cond.fieldLink RX4 9 "WheelDesk$Wheel" "direction" "[I", Cond.fieldLink RX4 15 "WheelDesk$Wheel" "momentum" "I", Cond.fieldLink RX4 19 "WheelDesk$Wheel" "mostMomentum" "I", Cond.fieldLink RX4 22 "WheelDesk$Wheel" "mostTorque" "I", Cond.fieldLink RX4 25 "WheelDesk$Wheel" "failed" "Z", Cond.fieldLink RX4 29 "WheelDesk$Wheel" "got" "I", Cond.methodLink RX5 205 yX5_span, Cond.instanceMethod yX5_span, Cond.selects RX5 yX5_span yX5_span, Cond.code yX5_span cX5_span 1 (some .long), Cond.fieldLink RX5 22 "WheelDesk" "sharing" "LWheelDesk$Sharing;", Cond.constant RX5 126 (-2000009), Cond.fieldLink RX5 141 "WheelDesk$Sharing" "determinant" "J", Cond.methodLink RX5 127 yX3_measure, Cond.instanceMethod yX3_measure, Cond.selects RX3 yX3_measure yX3_measure, Cond.initialized RX3, Cond.code yX3_measure cX3_measure 5 none]
def wsX5_fingerprint_r5 : List Cond := [Cond.fieldLink RX3 11 "WheelDesk$Sharing" "matrix" "[[J", Cond.fieldLink RX3 23 "WheelDesk$Craft" "wheelCount" "I", Cond.fieldLink RX3 29 "WheelDesk$Craft" "wheelRow" "[LWheelDesk$Wheel;", Cond.fieldLink RX3 33 "WheelDesk$Wheel" "failed" "Z", Cond.fieldLink RX3 39 "WheelDesk$Wheel" "direction" "[I", Cond.fieldLink RX3 50 "WheelDesk$Sharing" "determinant" "J", Cond.fieldLink RX3 16 "WheelDesk$Sharing" "cofactor" "[[J", Cond.methodLink RX3 43 yX3_addProducts, Cond.instanceMethod yX3_addProducts, Cond.selects RX3 yX3_addProducts yX3_addProducts, Cond.code yX3_addProducts cX3_addProducts 4 none, Cond.methodLink RX3 47 yX3_findCofactors, Cond.instanceMethod yX3_findCofactors, Cond.selects RX3 yX3_findCofactors yX3_findCofactors, Cond.code yX3_findCofactors cX3_findCofactors 7 none, Cond.static yX5_axisAfter, Cond.code yX5_axisAfter cX5_axisAfter 2 (some .int), Cond.methodLink RX5 209 yX5_why, Cond.instanceMethod yX5_why, Cond.selects RX5 yX5_why yX5_why, Cond.code yX5_why cX5_why 2 (some .int), Cond.fieldLink RX5 162 "WheelDesk$Craft" "reasons" "[I"]
def wsX5_fingerprint : List Cond := .code yX5_fingerprint cX5_fingerprint 5 (some .long) :: ((wsX5_fingerprint_r1 ++ (wsX5_fingerprint_r2 ++ (wsX5_fingerprint_r3 ++ (wsX5_fingerprint_r4 ++ wsX5_fingerprint_r5)))) ++ wsX50 ++ wsX00 ++ wsX40 ++ wsX30)
def wsX6_axisAt : List Cond := .code yX6_axisAt cX6_axisAt 2 (some .int) :: ([])
def wsX6_reasons : List Cond := .code yX6_reasons cX6_reasons 7 none :: ([.fieldLink RX6 7 "WheelDeskModel" "v" "[J"] ++ wsX60)
def wsX6_init_r1 : List Cond := [Cond.methodLink RX6 1 objectInit, Cond.instanceMethod objectInit, Cond.code objectInit ⟨#[0xb1]⟩ 1 none, Cond.arrayClass .long, Cond.fieldLink RX6 7 "WheelDeskModel" "v" "[J", Cond.fieldLink RX6 13 "WheelDeskModel" "aside" "[J", Cond.fieldLink RX6 16 "WheelDeskModel" "past" "[J", Cond.fieldLink RX6 19 "WheelDeskModel" "m" "[J", Cond.fieldLink RX6 22 "WheelDeskModel" "c" "[J", Cond.fieldLink RX6 25 "WheelDeskModel" "turn" "[J", Cond.fieldLink RX6 28 "WheelDeskModel" "h" "[J", Cond.fieldLink RX6 31 "WheelDeskModel" "b" "[J", Cond.fieldLink RX6 34 "WheelDeskModel" "moment" "[J", Cond.constantLong RX6 37 (10), Cond.constantLong RX6 39 (60), Cond.constantLong RX6 41 (500), Cond.constantLong RX6 43 (2000), Cond.constantLong RX6 49 (100), Cond.constantLong RX6 51 (-2000009), Cond.methodLink RX6 45 yX6_axisAt, Cond.static yX6_axisAt, Cond.initialized RX6, Cond.code yX6_axisAt cX6_axisAt 2 (some .int), Cond.methodLink RX6 53 yX6_reasons]
def wsX6_init_r2 : List Cond := [Cond.instanceMethod yX6_reasons, Cond.selects RX6 yX6_reasons yX6_reasons, Cond.code yX6_reasons cX6_reasons 7 none]
def wsX6_init : List Cond := .code yX6_init cX6_init 2 none :: ((wsX6_init_r1 ++ wsX6_init_r2) ++ wsX60)
def wsX6_in : List Cond := .code yX6_in cX6_in 3 (some .boolean) :: ([])
def wsX6_act : List Cond := .code yX6_act cX6_act 2 none :: ([.fieldLink RX6 57 "WheelDeskModel" "pastMany" "I", .fieldLink RX6 16 "WheelDeskModel" "past" "[J", .fieldLink RX6 7 "WheelDeskModel" "v" "[J"] ++ wsX60)
def wsX6_copies : List Cond := .code yX6_copies cX6_copies 3 none :: ([])
def wsX6_div : List Cond := .code yX6_div cX6_div 6 (some .long) :: ([])
def wsX6_nearest : List Cond := .code yX6_nearest cX6_nearest 4 (some .long) :: ([.constantLong RX6 61 (2), .methodLink RX6 63 yX6_div, .static yX6_div, .initialized RX6, .code yX6_div cX6_div 6 (some .long)])
def wsX6_held : List Cond := .code yX6_held cX6_held 4 (some .long) :: ([])
def wsX6_size : List Cond := .code yX6_size cX6_size 2 (some .long) :: ([])
def wsX6_wheelAt : List Cond := .code yX6_wheelAt cX6_wheelAt 2 (some .int) :: ([])
def wsX6_isWheel : List Cond := .code yX6_isWheel cX6_isWheel 2 (some .boolean) :: ([.fieldLink RX6 7 "WheelDeskModel" "v" "[J", .methodLink RX6 67 yX6_in, .static yX6_in, .initialized RX6, .code yX6_in cX6_in 3 (some .boolean)] ++ wsX60)
def wsX6_works : List Cond := .code yX6_works cX6_works 2 (some .boolean) :: ([.fieldLink RX6 7 "WheelDeskModel" "v" "[J", .methodLink RX6 71 yX6_wheelAt, .static yX6_wheelAt, .initialized RX6, .code yX6_wheelAt cX6_wheelAt 2 (some .int)] ++ wsX60)
def wsX6_isPart : List Cond := .code yX6_isPart cX6_isPart 1 (some .boolean) :: ([.methodLink RX6 67 yX6_in, .static yX6_in, .initialized RX6, .code yX6_in cX6_in 3 (some .boolean)])
def wsX6_addWheel : List Cond := .code yX6_addWheel cX6_addWheel 7 (some .int) :: ([.constant RX6 78 (1000000), .constant RX6 79 (100000), .constant RX6 80 (-2000001), .fieldLink RX6 7 "WheelDeskModel" "v" "[J", .constantLong RX6 81 (6), .constant RX6 83 (-2000003), .methodLink RX6 74 yX6_isPart, .static yX6_isPart, .initialized RX6, .code yX6_isPart cX6_isPart 1 (some .boolean), .methodLink RX6 67 yX6_in, .static yX6_in, .code yX6_in cX6_in 3 (some .boolean), .methodLink RX6 84 yX6_act, .instanceMethod yX6_act, .selects RX6 yX6_act yX6_act, .code yX6_act cX6_act 2 none, .fieldLink RX6 57 "WheelDeskModel" "pastMany" "I", .fieldLink RX6 16 "WheelDeskModel" "past" "[J", .methodLink RX6 71 yX6_wheelAt, .static yX6_wheelAt, .code yX6_wheelAt cX6_wheelAt 2 (some .int)] ++ wsX60)
def wsX6_sets : List Cond := .code yX6_sets cX6_sets 4 (some .int) :: ([.fieldLink RX6 7 "WheelDeskModel" "v" "[J", .methodLink RX6 84 yX6_act, .instanceMethod yX6_act, .selects RX6 yX6_act yX6_act, .initialized RX6, .code yX6_act cX6_act 2 none, .fieldLink RX6 57 "WheelDeskModel" "pastMany" "I", .fieldLink RX6 16 "WheelDeskModel" "past" "[J"] ++ wsX60)
def wsX6_fail : List Cond := .code yX6_fail cX6_fail 3 (some .int) :: ([.constant RX6 80 (-2000001), .methodLink RX6 87 yX6_isWheel, .instanceMethod yX6_isWheel, .selects RX6 yX6_isWheel yX6_isWheel, .initialized RX6, .code yX6_isWheel cX6_isWheel 2 (some .boolean), .fieldLink RX6 7 "WheelDeskModel" "v" "[J", .methodLink RX6 67 yX6_in, .static yX6_in, .code yX6_in cX6_in 3 (some .boolean), .methodLink RX6 71 yX6_wheelAt, .static yX6_wheelAt, .code yX6_wheelAt cX6_wheelAt 2 (some .int), .methodLink RX6 90 yX6_sets, .instanceMethod yX6_sets, .selects RX6 yX6_sets yX6_sets, .code yX6_sets cX6_sets 4 (some .int), .methodLink RX6 84 yX6_act, .instanceMethod yX6_act, .selects RX6 yX6_act yX6_act, .code yX6_act cX6_act 2 none, .fieldLink RX6 57 "WheelDeskModel" "pastMany" "I", .fieldLink RX6 16 "WheelDeskModel" "past" "[J"] ++ wsX60)
def wsX6_setMost_r1 : List Cond := [Cond.constant RX6 79 (100000), Cond.constant RX6 78 (1000000), Cond.constant RX6 80 (-2000001), Cond.methodLink RX6 87 yX6_isWheel, Cond.instanceMethod yX6_isWheel, Cond.selects RX6 yX6_isWheel yX6_isWheel, Cond.initialized RX6, Cond.code yX6_isWheel cX6_isWheel 2 (some .boolean), Cond.fieldLink RX6 7 "WheelDeskModel" "v" "[J", Cond.methodLink RX6 67 yX6_in, Cond.static yX6_in, Cond.code yX6_in cX6_in 3 (some .boolean), Cond.methodLink RX6 71 yX6_wheelAt, Cond.static yX6_wheelAt, Cond.code yX6_wheelAt cX6_wheelAt 2 (some .int), Cond.methodLink RX6 90 yX6_sets, Cond.instanceMethod yX6_sets, Cond.selects RX6 yX6_sets yX6_sets, Cond.code yX6_sets cX6_sets 4 (some .int), Cond.methodLink RX6 84 yX6_act, Cond.instanceMethod yX6_act, Cond.selects RX6 yX6_act yX6_act, Cond.code yX6_act cX6_act 2 none, Cond.fieldLink RX6 57 "WheelDeskModel" "pastMany" "I"]
def wsX6_setMost_r2 : List Cond := [Cond.fieldLink RX6 16 "WheelDeskModel" "past" "[J"]
def wsX6_setMost : List Cond := .code yX6_setMost cX6_setMost 4 (some .int) :: ((wsX6_setMost_r1 ++ wsX6_setMost_r2) ++ wsX60)
def wsX6_wheel : List Cond := .code yX6_wheel cX6_wheel 3 (some .int) :: ([.fieldLink RX6 7 "WheelDeskModel" "v" "[J", .constant RX6 80 (-2000001), .methodLink RX6 87 yX6_isWheel, .instanceMethod yX6_isWheel, .selects RX6 yX6_isWheel yX6_isWheel, .initialized RX6, .code yX6_isWheel cX6_isWheel 2 (some .boolean), .methodLink RX6 67 yX6_in, .static yX6_in, .code yX6_in cX6_in 3 (some .boolean), .methodLink RX6 71 yX6_wheelAt, .static yX6_wheelAt, .code yX6_wheelAt cX6_wheelAt 2 (some .int)] ++ wsX60)
def wsX6_wheels : List Cond := .code yX6_wheels cX6_wheels 1 (some .int) :: ([.fieldLink RX6 7 "WheelDeskModel" "v" "[J"] ++ wsX60)
def wsX6_isAxis : List Cond := .code yX6_isAxis cX6_isAxis 1 (some .boolean) :: ([.methodLink RX6 67 yX6_in, .static yX6_in, .initialized RX6, .code yX6_in cX6_in 3 (some .boolean)])
def wsX6_setAxis : List Cond := .code yX6_setAxis cX6_setAxis 5 (some .int) :: ([.constant RX6 93 (-1000000), .constant RX6 78 (1000000), .constant RX6 80 (-2000001), .methodLink RX6 67 yX6_in, .static yX6_in, .initialized RX6, .code yX6_in cX6_in 3 (some .boolean), .methodLink RX6 94 yX6_isAxis, .static yX6_isAxis, .code yX6_isAxis cX6_isAxis 1 (some .boolean), .methodLink RX6 45 yX6_axisAt, .static yX6_axisAt, .code yX6_axisAt cX6_axisAt 2 (some .int), .methodLink RX6 90 yX6_sets, .instanceMethod yX6_sets, .selects RX6 yX6_sets yX6_sets, .code yX6_sets cX6_sets 4 (some .int), .fieldLink RX6 7 "WheelDeskModel" "v" "[J", .methodLink RX6 84 yX6_act, .instanceMethod yX6_act, .selects RX6 yX6_act yX6_act, .code yX6_act cX6_act 2 none, .fieldLink RX6 57 "WheelDeskModel" "pastMany" "I", .fieldLink RX6 16 "WheelDeskModel" "past" "[J"] ++ wsX60)
def wsX6_set : List Cond := .code yX6_set cX6_set 5 (some .int) :: ([.constant RX6 79 (100000), .constant RX6 80 (-2000001), .methodLink RX6 67 yX6_in, .static yX6_in, .initialized RX6, .code yX6_in cX6_in 3 (some .boolean), .methodLink RX6 90 yX6_sets, .instanceMethod yX6_sets, .selects RX6 yX6_sets yX6_sets, .code yX6_sets cX6_sets 4 (some .int), .fieldLink RX6 7 "WheelDeskModel" "v" "[J", .methodLink RX6 84 yX6_act, .instanceMethod yX6_act, .selects RX6 yX6_act yX6_act, .code yX6_act cX6_act 2 none, .fieldLink RX6 57 "WheelDeskModel" "pastMany" "I", .fieldLink RX6 16 "WheelDeskModel" "past" "[J"] ++ wsX60)
def wsX6_setting : List Cond := .code yX6_setting cX6_setting 2 (some .int) :: ([.fieldLink RX6 7 "WheelDeskModel" "v" "[J", .constant RX6 80 (-2000001), .methodLink RX6 67 yX6_in, .static yX6_in, .initialized RX6, .code yX6_in cX6_in 3 (some .boolean)] ++ wsX60)
def wsX6_rate : List Cond := .code yX6_rate cX6_rate 2 (some .long) :: ([.fieldLink RX6 7 "WheelDeskModel" "v" "[J", .methodLink RX6 45 yX6_axisAt, .static yX6_axisAt, .initialized RX6, .code yX6_axisAt cX6_axisAt 2 (some .int), .methodLink RX6 63 yX6_div, .static yX6_div, .code yX6_div cX6_div 6 (some .long)] ++ wsX60)
def wsX6_pushes : List Cond := .code yX6_pushes cX6_pushes 4 none :: ([.fieldLink RX6 7 "WheelDeskModel" "v" "[J", .methodLink RX6 45 yX6_axisAt, .static yX6_axisAt, .initialized RX6, .code yX6_axisAt cX6_axisAt 2 (some .int)] ++ wsX60)
def wsX6_strike_r1 : List Cond := [Cond.constant RX6 97 (-100000), Cond.constant RX6 79 (100000), Cond.constantLong RX6 98 (-4611686018427387905), Cond.methodLink RX6 94 yX6_isAxis, Cond.static yX6_isAxis, Cond.initialized RX6, Cond.code yX6_isAxis cX6_isAxis 1 (some .boolean), Cond.methodLink RX6 67 yX6_in, Cond.static yX6_in, Cond.code yX6_in cX6_in 3 (some .boolean), Cond.methodLink RX6 84 yX6_act, Cond.instanceMethod yX6_act, Cond.selects RX6 yX6_act yX6_act, Cond.code yX6_act cX6_act 2 none, Cond.fieldLink RX6 57 "WheelDeskModel" "pastMany" "I", Cond.fieldLink RX6 16 "WheelDeskModel" "past" "[J", Cond.fieldLink RX6 7 "WheelDeskModel" "v" "[J", Cond.methodLink RX6 100 yX6_pushes, Cond.instanceMethod yX6_pushes, Cond.selects RX6 yX6_pushes yX6_pushes, Cond.code yX6_pushes cX6_pushes 4 none, Cond.methodLink RX6 45 yX6_axisAt, Cond.static yX6_axisAt, Cond.code yX6_axisAt cX6_axisAt 2 (some .int)]
def wsX6_strike_r2 : List Cond := [Cond.methodLink RX6 104 yX6_rate, Cond.instanceMethod yX6_rate, Cond.selects RX6 yX6_rate yX6_rate, Cond.code yX6_rate cX6_rate 2 (some .long), Cond.methodLink RX6 63 yX6_div, Cond.static yX6_div, Cond.code yX6_div cX6_div 6 (some .long)]
def wsX6_strike : List Cond := .code yX6_strike cX6_strike 3 (some .long) :: ((wsX6_strike_r1 ++ wsX6_strike_r2) ++ wsX60)
def wsX6_other : List Cond := .code yX6_other cX6_other 2 (some .int) :: ([])
def wsX6_spans : List Cond := .code yX6_spans cX6_spans 6 none :: ([.fieldLink RX6 19 "WheelDeskModel" "m" "[J", .fieldLink RX6 7 "WheelDeskModel" "v" "[J", .fieldLink RX6 22 "WheelDeskModel" "c" "[J", .fieldLink RX6 114 "WheelDeskModel" "det" "J", .methodLink RX6 108 yX6_works, .instanceMethod yX6_works, .selects RX6 yX6_works yX6_works, .initialized RX6, .code yX6_works cX6_works 2 (some .boolean), .methodLink RX6 71 yX6_wheelAt, .static yX6_wheelAt, .code yX6_wheelAt cX6_wheelAt 2 (some .int), .methodLink RX6 111 yX6_other, .static yX6_other, .code yX6_other cX6_other 2 (some .int)] ++ wsX60)
def wsX6_wishOf : List Cond := .code yX6_wishOf cX6_wishOf 11 (some .long) :: ([.fieldLink RX6 7 "WheelDeskModel" "v" "[J", .fieldLink RX6 22 "WheelDeskModel" "c" "[J", .fieldLink RX6 114 "WheelDeskModel" "det" "J", .methodLink RX6 71 yX6_wheelAt, .static yX6_wheelAt, .initialized RX6, .code yX6_wheelAt cX6_wheelAt 2 (some .int), .methodLink RX6 118 yX6_nearest, .static yX6_nearest, .code yX6_nearest cX6_nearest 4 (some .long), .constantLong RX6 61 (2), .methodLink RX6 63 yX6_div, .static yX6_div, .code yX6_div cX6_div 6 (some .long)] ++ wsX60)
def wsX6_room : List Cond := .code yX6_room cX6_room 8 (some .long) :: ([.fieldLink RX6 7 "WheelDeskModel" "v" "[J", .methodLink RX6 71 yX6_wheelAt, .static yX6_wheelAt, .initialized RX6, .code yX6_wheelAt cX6_wheelAt 2 (some .int)] ++ wsX60)
def wsX6_gives : List Cond := .code yX6_gives cX6_gives 5 none :: ([.fieldLink RX6 7 "WheelDeskModel" "v" "[J", .methodLink RX6 71 yX6_wheelAt, .static yX6_wheelAt, .initialized RX6, .code yX6_wheelAt cX6_wheelAt 2 (some .int), .methodLink RX6 45 yX6_axisAt, .static yX6_axisAt, .code yX6_axisAt cX6_axisAt 2 (some .int)] ++ wsX60)
def wsX6_shares_r1 : List Cond := [Cond.constant RX6 121 (-2000009), Cond.fieldLink RX6 7 "WheelDeskModel" "v" "[J", Cond.fieldLink RX6 114 "WheelDeskModel" "det" "J", Cond.constantLong RX6 51 (-2000009), Cond.constantLong RX6 37 (10), Cond.fieldLink RX6 25 "WheelDeskModel" "turn" "[J", Cond.constantLong RX6 61 (2), Cond.constantLong RX6 137 (20), Cond.constantLong RX6 139 (4), Cond.constantLong RX6 141 (3), Cond.methodLink RX6 122 yX6_spans, Cond.instanceMethod yX6_spans, Cond.selects RX6 yX6_spans yX6_spans, Cond.initialized RX6, Cond.code yX6_spans cX6_spans 6 none, Cond.fieldLink RX6 19 "WheelDeskModel" "m" "[J", Cond.fieldLink RX6 22 "WheelDeskModel" "c" "[J", Cond.methodLink RX6 108 yX6_works, Cond.instanceMethod yX6_works, Cond.selects RX6 yX6_works yX6_works, Cond.code yX6_works cX6_works 2 (some .boolean), Cond.methodLink RX6 71 yX6_wheelAt, Cond.static yX6_wheelAt, Cond.code yX6_wheelAt cX6_wheelAt 2 (some .int)]
def wsX6_shares_r2 : List Cond := [Cond.methodLink RX6 111 yX6_other, Cond.static yX6_other, Cond.code yX6_other cX6_other 2 (some .int), Cond.methodLink RX6 53 yX6_reasons, Cond.instanceMethod yX6_reasons, Cond.selects RX6 yX6_reasons yX6_reasons, Cond.code yX6_reasons cX6_reasons 7 none, Cond.methodLink RX6 126 yX6_wishOf, Cond.instanceMethod yX6_wishOf, Cond.selects RX6 yX6_wishOf yX6_wishOf, Cond.code yX6_wishOf cX6_wishOf 11 (some .long), Cond.methodLink RX6 118 yX6_nearest, Cond.static yX6_nearest, Cond.code yX6_nearest cX6_nearest 4 (some .long), Cond.methodLink RX6 63 yX6_div, Cond.static yX6_div, Cond.code yX6_div cX6_div 6 (some .long), Cond.methodLink RX6 130 yX6_held, Cond.static yX6_held, Cond.code yX6_held cX6_held 4 (some .long), Cond.methodLink RX6 133 yX6_room, Cond.instanceMethod yX6_room, Cond.selects RX6 yX6_room yX6_room, Cond.code yX6_room cX6_room 8 (some .long)]
def wsX6_shares_r3 : List Cond := [Cond.methodLink RX6 143 yX6_gives, Cond.instanceMethod yX6_gives, Cond.selects RX6 yX6_gives yX6_gives, Cond.code yX6_gives cX6_gives 5 none, Cond.methodLink RX6 45 yX6_axisAt, Cond.static yX6_axisAt, Cond.code yX6_axisAt cX6_axisAt 2 (some .int)]
def wsX6_shares : List Cond := .code yX6_shares cX6_shares 8 (some .boolean) :: ((wsX6_shares_r1 ++ (wsX6_shares_r2 ++ wsX6_shares_r3)) ++ wsX60)
def wsX6_product : List Cond := .code yX6_product cX6_product 3 (some .long) :: ([.methodLink RX6 111 yX6_other, .static yX6_other, .initialized RX6, .code yX6_other cX6_other 2 (some .int)])
def wsX6_drops_r1 : List Cond := [Cond.fieldLink RX6 31 "WheelDeskModel" "b" "[J", Cond.fieldLink RX6 7 "WheelDeskModel" "v" "[J", Cond.fieldLink RX6 28 "WheelDeskModel" "h" "[J", Cond.fieldLink RX6 34 "WheelDeskModel" "moment" "[J", Cond.constantLong RX6 150 (1000), Cond.constantLong RX6 49 (100), Cond.methodLink RX6 45 yX6_axisAt, Cond.static yX6_axisAt, Cond.initialized RX6, Cond.code yX6_axisAt cX6_axisAt 2 (some .int), Cond.methodLink RX6 71 yX6_wheelAt, Cond.static yX6_wheelAt, Cond.code yX6_wheelAt cX6_wheelAt 2 (some .int), Cond.methodLink RX6 146 yX6_product, Cond.static yX6_product, Cond.code yX6_product cX6_product 3 (some .long), Cond.methodLink RX6 111 yX6_other, Cond.static yX6_other, Cond.code yX6_other cX6_other 2 (some .int), Cond.methodLink RX6 63 yX6_div, Cond.static yX6_div, Cond.code yX6_div cX6_div 6 (some .long), Cond.methodLink RX6 130 yX6_held, Cond.static yX6_held]
def wsX6_drops_r2 : List Cond := [Cond.code yX6_held cX6_held 4 (some .long), Cond.methodLink RX6 100 yX6_pushes, Cond.instanceMethod yX6_pushes, Cond.selects RX6 yX6_pushes yX6_pushes, Cond.code yX6_pushes cX6_pushes 4 none]
def wsX6_drops : List Cond := .code yX6_drops cX6_drops 3 none :: ((wsX6_drops_r1 ++ wsX6_drops_r2) ++ wsX60)
def wsX6_passes_r1 : List Cond := [Cond.fieldLink RX6 7 "WheelDeskModel" "v" "[J", Cond.constantLong RX6 49 (100), Cond.fieldLink RX6 25 "WheelDeskModel" "turn" "[J", Cond.methodLink RX6 45 yX6_axisAt, Cond.static yX6_axisAt, Cond.initialized RX6, Cond.code yX6_axisAt cX6_axisAt 2 (some .int), Cond.methodLink RX6 63 yX6_div, Cond.static yX6_div, Cond.code yX6_div cX6_div 6 (some .long), Cond.methodLink RX6 130 yX6_held, Cond.static yX6_held, Cond.code yX6_held cX6_held 4 (some .long), Cond.methodLink RX6 104 yX6_rate, Cond.instanceMethod yX6_rate, Cond.selects RX6 yX6_rate yX6_rate, Cond.code yX6_rate cX6_rate 2 (some .long), Cond.methodLink RX6 152 yX6_shares, Cond.instanceMethod yX6_shares, Cond.selects RX6 yX6_shares yX6_shares, Cond.code yX6_shares cX6_shares 8 (some .boolean), Cond.constant RX6 121 (-2000009), Cond.fieldLink RX6 114 "WheelDeskModel" "det" "J", Cond.constantLong RX6 51 (-2000009)]
def wsX6_passes_r2 : List Cond := [Cond.constantLong RX6 37 (10), Cond.constantLong RX6 61 (2), Cond.constantLong RX6 137 (20), Cond.constantLong RX6 139 (4), Cond.constantLong RX6 141 (3), Cond.methodLink RX6 122 yX6_spans, Cond.instanceMethod yX6_spans, Cond.selects RX6 yX6_spans yX6_spans, Cond.code yX6_spans cX6_spans 6 none, Cond.fieldLink RX6 19 "WheelDeskModel" "m" "[J", Cond.fieldLink RX6 22 "WheelDeskModel" "c" "[J", Cond.methodLink RX6 108 yX6_works, Cond.instanceMethod yX6_works, Cond.selects RX6 yX6_works yX6_works, Cond.code yX6_works cX6_works 2 (some .boolean), Cond.methodLink RX6 71 yX6_wheelAt, Cond.static yX6_wheelAt, Cond.code yX6_wheelAt cX6_wheelAt 2 (some .int), Cond.methodLink RX6 111 yX6_other, Cond.static yX6_other, Cond.code yX6_other cX6_other 2 (some .int), Cond.methodLink RX6 53 yX6_reasons, Cond.instanceMethod yX6_reasons, Cond.selects RX6 yX6_reasons yX6_reasons]
def wsX6_passes_r3 : List Cond := [Cond.code yX6_reasons cX6_reasons 7 none, Cond.methodLink RX6 126 yX6_wishOf, Cond.instanceMethod yX6_wishOf, Cond.selects RX6 yX6_wishOf yX6_wishOf, Cond.code yX6_wishOf cX6_wishOf 11 (some .long), Cond.methodLink RX6 118 yX6_nearest, Cond.static yX6_nearest, Cond.code yX6_nearest cX6_nearest 4 (some .long), Cond.methodLink RX6 133 yX6_room, Cond.instanceMethod yX6_room, Cond.selects RX6 yX6_room yX6_room, Cond.code yX6_room cX6_room 8 (some .long), Cond.methodLink RX6 143 yX6_gives, Cond.instanceMethod yX6_gives, Cond.selects RX6 yX6_gives yX6_gives, Cond.code yX6_gives cX6_gives 5 none, Cond.methodLink RX6 156 yX6_drops, Cond.instanceMethod yX6_drops, Cond.selects RX6 yX6_drops yX6_drops, Cond.code yX6_drops cX6_drops 3 none, Cond.fieldLink RX6 31 "WheelDeskModel" "b" "[J", Cond.fieldLink RX6 28 "WheelDeskModel" "h" "[J", Cond.fieldLink RX6 34 "WheelDeskModel" "moment" "[J", Cond.constantLong RX6 150 (1000)]
def wsX6_passes_r4 : List Cond := [Cond.methodLink RX6 146 yX6_product, Cond.static yX6_product, Cond.code yX6_product cX6_product 3 (some .long), Cond.methodLink RX6 100 yX6_pushes, Cond.instanceMethod yX6_pushes, Cond.selects RX6 yX6_pushes yX6_pushes, Cond.code yX6_pushes cX6_pushes 4 none]
def wsX6_passes : List Cond := .code yX6_passes cX6_passes 4 (some .boolean) :: ((wsX6_passes_r1 ++ (wsX6_passes_r2 ++ (wsX6_passes_r3 ++ wsX6_passes_r4))) ++ wsX60)
def wsX6_tick_r1 : List Cond := [Cond.constant RX6 80 (-2000001), Cond.fieldLink RX6 7 "WheelDeskModel" "v" "[J", Cond.constantLong RX6 159 (50000), Cond.constant RX6 161 (-2000002), Cond.methodLink RX6 67 yX6_in, Cond.static yX6_in, Cond.initialized RX6, Cond.code yX6_in cX6_in 3 (some .boolean), Cond.methodLink RX6 84 yX6_act, Cond.instanceMethod yX6_act, Cond.selects RX6 yX6_act yX6_act, Cond.code yX6_act cX6_act 2 none, Cond.fieldLink RX6 57 "WheelDeskModel" "pastMany" "I", Cond.fieldLink RX6 16 "WheelDeskModel" "past" "[J", Cond.methodLink RX6 162 yX6_passes, Cond.instanceMethod yX6_passes, Cond.selects RX6 yX6_passes yX6_passes, Cond.code yX6_passes cX6_passes 4 (some .boolean), Cond.constantLong RX6 49 (100), Cond.fieldLink RX6 25 "WheelDeskModel" "turn" "[J", Cond.methodLink RX6 45 yX6_axisAt, Cond.static yX6_axisAt, Cond.code yX6_axisAt cX6_axisAt 2 (some .int), Cond.methodLink RX6 63 yX6_div]
def wsX6_tick_r2 : List Cond := [Cond.static yX6_div, Cond.code yX6_div cX6_div 6 (some .long), Cond.methodLink RX6 130 yX6_held, Cond.static yX6_held, Cond.code yX6_held cX6_held 4 (some .long), Cond.methodLink RX6 104 yX6_rate, Cond.instanceMethod yX6_rate, Cond.selects RX6 yX6_rate yX6_rate, Cond.code yX6_rate cX6_rate 2 (some .long), Cond.methodLink RX6 152 yX6_shares, Cond.instanceMethod yX6_shares, Cond.selects RX6 yX6_shares yX6_shares, Cond.code yX6_shares cX6_shares 8 (some .boolean), Cond.constant RX6 121 (-2000009), Cond.fieldLink RX6 114 "WheelDeskModel" "det" "J", Cond.constantLong RX6 51 (-2000009), Cond.constantLong RX6 37 (10), Cond.constantLong RX6 61 (2), Cond.constantLong RX6 137 (20), Cond.constantLong RX6 139 (4), Cond.constantLong RX6 141 (3), Cond.methodLink RX6 122 yX6_spans, Cond.instanceMethod yX6_spans, Cond.selects RX6 yX6_spans yX6_spans]
def wsX6_tick_r3 : List Cond := [Cond.code yX6_spans cX6_spans 6 none, Cond.fieldLink RX6 19 "WheelDeskModel" "m" "[J", Cond.fieldLink RX6 22 "WheelDeskModel" "c" "[J", Cond.methodLink RX6 108 yX6_works, Cond.instanceMethod yX6_works, Cond.selects RX6 yX6_works yX6_works, Cond.code yX6_works cX6_works 2 (some .boolean), Cond.methodLink RX6 71 yX6_wheelAt, Cond.static yX6_wheelAt, Cond.code yX6_wheelAt cX6_wheelAt 2 (some .int), Cond.methodLink RX6 111 yX6_other, Cond.static yX6_other, Cond.code yX6_other cX6_other 2 (some .int), Cond.methodLink RX6 53 yX6_reasons, Cond.instanceMethod yX6_reasons, Cond.selects RX6 yX6_reasons yX6_reasons, Cond.code yX6_reasons cX6_reasons 7 none, Cond.methodLink RX6 126 yX6_wishOf, Cond.instanceMethod yX6_wishOf, Cond.selects RX6 yX6_wishOf yX6_wishOf, Cond.code yX6_wishOf cX6_wishOf 11 (some .long), Cond.methodLink RX6 118 yX6_nearest, Cond.static yX6_nearest, Cond.code yX6_nearest cX6_nearest 4 (some .long)]
def wsX6_tick_r4 : List Cond := [Cond.methodLink RX6 133 yX6_room, Cond.instanceMethod yX6_room, Cond.selects RX6 yX6_room yX6_room, Cond.code yX6_room cX6_room 8 (some .long), Cond.methodLink RX6 143 yX6_gives, Cond.instanceMethod yX6_gives, Cond.selects RX6 yX6_gives yX6_gives, Cond.code yX6_gives cX6_gives 5 none, Cond.methodLink RX6 156 yX6_drops, Cond.instanceMethod yX6_drops, Cond.selects RX6 yX6_drops yX6_drops, Cond.code yX6_drops cX6_drops 3 none, Cond.fieldLink RX6 31 "WheelDeskModel" "b" "[J", Cond.fieldLink RX6 28 "WheelDeskModel" "h" "[J", Cond.fieldLink RX6 34 "WheelDeskModel" "moment" "[J", Cond.constantLong RX6 150 (1000), Cond.methodLink RX6 146 yX6_product, Cond.static yX6_product, Cond.code yX6_product cX6_product 3 (some .long), Cond.methodLink RX6 100 yX6_pushes, Cond.instanceMethod yX6_pushes, Cond.selects RX6 yX6_pushes yX6_pushes, Cond.code yX6_pushes cX6_pushes 4 none]
def wsX6_tick : List Cond := .code yX6_tick cX6_tick 4 (some .int) :: ((wsX6_tick_r1 ++ (wsX6_tick_r2 ++ (wsX6_tick_r3 ++ wsX6_tick_r4))) ++ wsX60)
def wsX6_time : List Cond := .code yX6_time cX6_time 1 (some .int) :: ([.fieldLink RX6 7 "WheelDeskModel" "v" "[J"] ++ wsX60)
def wsX6_whole : List Cond := .code yX6_whole cX6_whole 5 (some .long) :: ([.fieldLink RX6 7 "WheelDeskModel" "v" "[J", .methodLink RX6 45 yX6_axisAt, .static yX6_axisAt, .initialized RX6, .code yX6_axisAt cX6_axisAt 2 (some .int), .methodLink RX6 71 yX6_wheelAt, .static yX6_wheelAt, .code yX6_wheelAt cX6_wheelAt 2 (some .int)] ++ wsX60)
def wsX6_told : List Cond := .code yX6_told cX6_told 3 (some .long) :: ([.fieldLink RX6 7 "WheelDeskModel" "v" "[J", .methodLink RX6 45 yX6_axisAt, .static yX6_axisAt, .initialized RX6, .code yX6_axisAt cX6_axisAt 2 (some .int), .methodLink RX6 104 yX6_rate, .instanceMethod yX6_rate, .selects RX6 yX6_rate yX6_rate, .code yX6_rate cX6_rate 2 (some .long), .methodLink RX6 63 yX6_div, .static yX6_div, .code yX6_div cX6_div 6 (some .long), .methodLink RX6 165 yX6_whole, .instanceMethod yX6_whole, .selects RX6 yX6_whole yX6_whole, .code yX6_whole cX6_whole 5 (some .long), .methodLink RX6 71 yX6_wheelAt, .static yX6_wheelAt, .code yX6_wheelAt cX6_wheelAt 2 (some .int)] ++ wsX60)
def wsX6_axis_r1 : List Cond := [Cond.constantLong RX6 98 (-4611686018427387905), Cond.methodLink RX6 94 yX6_isAxis, Cond.static yX6_isAxis, Cond.initialized RX6, Cond.code yX6_isAxis cX6_isAxis 1 (some .boolean), Cond.methodLink RX6 67 yX6_in, Cond.static yX6_in, Cond.code yX6_in cX6_in 3 (some .boolean), Cond.methodLink RX6 168 yX6_told, Cond.instanceMethod yX6_told, Cond.selects RX6 yX6_told yX6_told, Cond.code yX6_told cX6_told 3 (some .long), Cond.fieldLink RX6 7 "WheelDeskModel" "v" "[J", Cond.methodLink RX6 45 yX6_axisAt, Cond.static yX6_axisAt, Cond.code yX6_axisAt cX6_axisAt 2 (some .int), Cond.methodLink RX6 104 yX6_rate, Cond.instanceMethod yX6_rate, Cond.selects RX6 yX6_rate yX6_rate, Cond.code yX6_rate cX6_rate 2 (some .long), Cond.methodLink RX6 63 yX6_div, Cond.static yX6_div, Cond.code yX6_div cX6_div 6 (some .long), Cond.methodLink RX6 165 yX6_whole]
def wsX6_axis_r2 : List Cond := [Cond.instanceMethod yX6_whole, Cond.selects RX6 yX6_whole yX6_whole, Cond.code yX6_whole cX6_whole 5 (some .long), Cond.methodLink RX6 71 yX6_wheelAt, Cond.static yX6_wheelAt, Cond.code yX6_wheelAt cX6_wheelAt 2 (some .int)]
def wsX6_axis : List Cond := .code yX6_axis cX6_axis 3 (some .long) :: ((wsX6_axis_r1 ++ wsX6_axis_r2) ++ wsX60)
def wsX6_span : List Cond := .code yX6_span cX6_span 1 (some .long) :: ([.constant RX6 121 (-2000009), .fieldLink RX6 114 "WheelDeskModel" "det" "J", .methodLink RX6 122 yX6_spans, .instanceMethod yX6_spans, .selects RX6 yX6_spans yX6_spans, .initialized RX6, .code yX6_spans cX6_spans 6 none, .fieldLink RX6 19 "WheelDeskModel" "m" "[J", .fieldLink RX6 7 "WheelDeskModel" "v" "[J", .fieldLink RX6 22 "WheelDeskModel" "c" "[J", .methodLink RX6 108 yX6_works, .instanceMethod yX6_works, .selects RX6 yX6_works yX6_works, .code yX6_works cX6_works 2 (some .boolean), .methodLink RX6 71 yX6_wheelAt, .static yX6_wheelAt, .code yX6_wheelAt cX6_wheelAt 2 (some .int), .methodLink RX6 111 yX6_other, .static yX6_other, .code yX6_other cX6_other 2 (some .int)] ++ wsX60)
def wsX6_isTorque : List Cond := .code yX6_isTorque cX6_isTorque 1 (some .boolean) :: ([.constant RX6 97 (-100000), .constant RX6 79 (100000), .methodLink RX6 67 yX6_in, .static yX6_in, .initialized RX6, .code yX6_in cX6_in 3 (some .boolean)])
def wsX6_wish_r1 : List Cond := [Cond.constantLong RX6 98 (-4611686018427387905), Cond.constant RX6 121 (-2000009), Cond.fieldLink RX6 114 "WheelDeskModel" "det" "J", Cond.methodLink RX6 87 yX6_isWheel, Cond.instanceMethod yX6_isWheel, Cond.selects RX6 yX6_isWheel yX6_isWheel, Cond.initialized RX6, Cond.code yX6_isWheel cX6_isWheel 2 (some .boolean), Cond.fieldLink RX6 7 "WheelDeskModel" "v" "[J", Cond.methodLink RX6 67 yX6_in, Cond.static yX6_in, Cond.code yX6_in cX6_in 3 (some .boolean), Cond.methodLink RX6 108 yX6_works, Cond.instanceMethod yX6_works, Cond.selects RX6 yX6_works yX6_works, Cond.code yX6_works cX6_works 2 (some .boolean), Cond.methodLink RX6 71 yX6_wheelAt, Cond.static yX6_wheelAt, Cond.code yX6_wheelAt cX6_wheelAt 2 (some .int), Cond.methodLink RX6 172 yX6_isTorque, Cond.static yX6_isTorque, Cond.code yX6_isTorque cX6_isTorque 1 (some .boolean), Cond.constant RX6 97 (-100000), Cond.constant RX6 79 (100000)]
def wsX6_wish_r2 : List Cond := [Cond.methodLink RX6 122 yX6_spans, Cond.instanceMethod yX6_spans, Cond.selects RX6 yX6_spans yX6_spans, Cond.code yX6_spans cX6_spans 6 none, Cond.fieldLink RX6 19 "WheelDeskModel" "m" "[J", Cond.fieldLink RX6 22 "WheelDeskModel" "c" "[J", Cond.methodLink RX6 111 yX6_other, Cond.static yX6_other, Cond.code yX6_other cX6_other 2 (some .int), Cond.methodLink RX6 126 yX6_wishOf, Cond.instanceMethod yX6_wishOf, Cond.selects RX6 yX6_wishOf yX6_wishOf, Cond.code yX6_wishOf cX6_wishOf 11 (some .long), Cond.methodLink RX6 118 yX6_nearest, Cond.static yX6_nearest, Cond.code yX6_nearest cX6_nearest 4 (some .long), Cond.constantLong RX6 61 (2), Cond.methodLink RX6 63 yX6_div, Cond.static yX6_div, Cond.code yX6_div cX6_div 6 (some .long)]
def wsX6_wish : List Cond := .code yX6_wish cX6_wish 5 (some .long) :: ((wsX6_wish_r1 ++ wsX6_wish_r2) ++ wsX60)
def wsX6_why : List Cond := .code yX6_why cX6_why 2 (some .int) :: ([.constant RX6 80 (-2000001), .constant RX6 121 (-2000009), .fieldLink RX6 7 "WheelDeskModel" "v" "[J"] ++ wsX60)
def wsX6_fullness : List Cond := .code yX6_fullness cX6_fullness 4 (some .float) :: ([.fieldLink RX6 7 "WheelDeskModel" "v" "[J", .methodLink RX6 71 yX6_wheelAt, .static yX6_wheelAt, .initialized RX6, .code yX6_wheelAt cX6_wheelAt 2 (some .int), .methodLink RX6 175 yX6_size, .static yX6_size, .code yX6_size cX6_size 2 (some .long)] ++ wsX60)
def wsX6_isThere : List Cond := .code yX6_isThere cX6_isThere 4 (some .boolean) :: ([.fieldLink RX6 7 "WheelDeskModel" "v" "[J", .methodLink RX6 45 yX6_axisAt, .static yX6_axisAt, .initialized RX6, .code yX6_axisAt cX6_axisAt 2 (some .int), .methodLink RX6 175 yX6_size, .static yX6_size, .code yX6_size cX6_size 2 (some .long), .methodLink RX6 104 yX6_rate, .instanceMethod yX6_rate, .selects RX6 yX6_rate yX6_rate, .code yX6_rate cX6_rate 2 (some .long), .methodLink RX6 63 yX6_div, .static yX6_div, .code yX6_div cX6_div 6 (some .long)] ++ wsX60)
def wsX6_arrives_r1 : List Cond := [Cond.constant RX6 78 (1000000), Cond.constant RX6 80 (-2000001), Cond.fieldLink RX6 7 "WheelDeskModel" "v" "[J", Cond.fieldLink RX6 13 "WheelDeskModel" "aside" "[J", Cond.constant RX6 121 (-2000009), Cond.methodLink RX6 67 yX6_in, Cond.static yX6_in, Cond.initialized RX6, Cond.code yX6_in cX6_in 3 (some .boolean), Cond.methodLink RX6 179 yX6_copies, Cond.static yX6_copies, Cond.code yX6_copies cX6_copies 3 none, Cond.methodLink RX6 183 yX6_isThere, Cond.instanceMethod yX6_isThere, Cond.selects RX6 yX6_isThere yX6_isThere, Cond.code yX6_isThere cX6_isThere 4 (some .boolean), Cond.methodLink RX6 45 yX6_axisAt, Cond.static yX6_axisAt, Cond.code yX6_axisAt cX6_axisAt 2 (some .int), Cond.methodLink RX6 175 yX6_size, Cond.static yX6_size, Cond.code yX6_size cX6_size 2 (some .long), Cond.methodLink RX6 104 yX6_rate, Cond.instanceMethod yX6_rate]
def wsX6_arrives_r2 : List Cond := [Cond.selects RX6 yX6_rate yX6_rate, Cond.code yX6_rate cX6_rate 2 (some .long), Cond.methodLink RX6 63 yX6_div, Cond.static yX6_div, Cond.code yX6_div cX6_div 6 (some .long), Cond.methodLink RX6 162 yX6_passes, Cond.instanceMethod yX6_passes, Cond.selects RX6 yX6_passes yX6_passes, Cond.code yX6_passes cX6_passes 4 (some .boolean), Cond.constantLong RX6 49 (100), Cond.fieldLink RX6 25 "WheelDeskModel" "turn" "[J", Cond.methodLink RX6 130 yX6_held, Cond.static yX6_held, Cond.code yX6_held cX6_held 4 (some .long), Cond.methodLink RX6 152 yX6_shares, Cond.instanceMethod yX6_shares, Cond.selects RX6 yX6_shares yX6_shares, Cond.code yX6_shares cX6_shares 8 (some .boolean), Cond.fieldLink RX6 114 "WheelDeskModel" "det" "J", Cond.constantLong RX6 51 (-2000009), Cond.constantLong RX6 37 (10), Cond.constantLong RX6 61 (2), Cond.constantLong RX6 137 (20), Cond.constantLong RX6 139 (4)]
def wsX6_arrives_r3 : List Cond := [Cond.constantLong RX6 141 (3), Cond.methodLink RX6 122 yX6_spans, Cond.instanceMethod yX6_spans, Cond.selects RX6 yX6_spans yX6_spans, Cond.code yX6_spans cX6_spans 6 none, Cond.fieldLink RX6 19 "WheelDeskModel" "m" "[J", Cond.fieldLink RX6 22 "WheelDeskModel" "c" "[J", Cond.methodLink RX6 108 yX6_works, Cond.instanceMethod yX6_works, Cond.selects RX6 yX6_works yX6_works, Cond.code yX6_works cX6_works 2 (some .boolean), Cond.methodLink RX6 71 yX6_wheelAt, Cond.static yX6_wheelAt, Cond.code yX6_wheelAt cX6_wheelAt 2 (some .int), Cond.methodLink RX6 111 yX6_other, Cond.static yX6_other, Cond.code yX6_other cX6_other 2 (some .int), Cond.methodLink RX6 53 yX6_reasons, Cond.instanceMethod yX6_reasons, Cond.selects RX6 yX6_reasons yX6_reasons, Cond.code yX6_reasons cX6_reasons 7 none, Cond.methodLink RX6 126 yX6_wishOf, Cond.instanceMethod yX6_wishOf, Cond.selects RX6 yX6_wishOf yX6_wishOf]
def wsX6_arrives_r4 : List Cond := [Cond.code yX6_wishOf cX6_wishOf 11 (some .long), Cond.methodLink RX6 118 yX6_nearest, Cond.static yX6_nearest, Cond.code yX6_nearest cX6_nearest 4 (some .long), Cond.methodLink RX6 133 yX6_room, Cond.instanceMethod yX6_room, Cond.selects RX6 yX6_room yX6_room, Cond.code yX6_room cX6_room 8 (some .long), Cond.methodLink RX6 143 yX6_gives, Cond.instanceMethod yX6_gives, Cond.selects RX6 yX6_gives yX6_gives, Cond.code yX6_gives cX6_gives 5 none, Cond.methodLink RX6 156 yX6_drops, Cond.instanceMethod yX6_drops, Cond.selects RX6 yX6_drops yX6_drops, Cond.code yX6_drops cX6_drops 3 none, Cond.fieldLink RX6 31 "WheelDeskModel" "b" "[J", Cond.fieldLink RX6 28 "WheelDeskModel" "h" "[J", Cond.fieldLink RX6 34 "WheelDeskModel" "moment" "[J", Cond.constantLong RX6 150 (1000), Cond.methodLink RX6 146 yX6_product, Cond.static yX6_product, Cond.code yX6_product cX6_product 3 (some .long), Cond.methodLink RX6 100 yX6_pushes]
def wsX6_arrives_r5 : List Cond := [Cond.instanceMethod yX6_pushes, Cond.selects RX6 yX6_pushes yX6_pushes, Cond.code yX6_pushes cX6_pushes 4 none]
def wsX6_arrives : List Cond := .code yX6_arrives cX6_arrives 5 (some .int) :: ((wsX6_arrives_r1 ++ (wsX6_arrives_r2 ++ (wsX6_arrives_r3 ++ (wsX6_arrives_r4 ++ wsX6_arrives_r5)))) ++ wsX60)
def wsX6_spare : List Cond := .code yX6_spare cX6_spare 3 (some .int) :: ([.fieldLink RX6 7 "WheelDeskModel" "v" "[J", .fieldLink RX6 114 "WheelDeskModel" "det" "J", .methodLink RX6 122 yX6_spans, .instanceMethod yX6_spans, .selects RX6 yX6_spans yX6_spans, .initialized RX6, .code yX6_spans cX6_spans 6 none, .fieldLink RX6 19 "WheelDeskModel" "m" "[J", .fieldLink RX6 22 "WheelDeskModel" "c" "[J", .methodLink RX6 108 yX6_works, .instanceMethod yX6_works, .selects RX6 yX6_works yX6_works, .code yX6_works cX6_works 2 (some .boolean), .methodLink RX6 71 yX6_wheelAt, .static yX6_wheelAt, .code yX6_wheelAt cX6_wheelAt 2 (some .int), .methodLink RX6 111 yX6_other, .static yX6_other, .code yX6_other cX6_other 2 (some .int)] ++ wsX60)
def wsX6_gravest_r1 : List Cond := [Cond.constant RX6 80 (-2000001), Cond.fieldLink RX6 7 "WheelDeskModel" "v" "[J", Cond.fieldLink RX6 13 "WheelDeskModel" "aside" "[J", Cond.constant RX6 121 (-2000009), Cond.constantLong RX6 186 (-1), Cond.methodLink RX6 67 yX6_in, Cond.static yX6_in, Cond.initialized RX6, Cond.code yX6_in cX6_in 3 (some .boolean), Cond.methodLink RX6 179 yX6_copies, Cond.static yX6_copies, Cond.code yX6_copies cX6_copies 3 none, Cond.methodLink RX6 108 yX6_works, Cond.instanceMethod yX6_works, Cond.selects RX6 yX6_works yX6_works, Cond.code yX6_works cX6_works 2 (some .boolean), Cond.methodLink RX6 71 yX6_wheelAt, Cond.static yX6_wheelAt, Cond.code yX6_wheelAt cX6_wheelAt 2 (some .int), Cond.methodLink RX6 162 yX6_passes, Cond.instanceMethod yX6_passes, Cond.selects RX6 yX6_passes yX6_passes, Cond.code yX6_passes cX6_passes 4 (some .boolean), Cond.constantLong RX6 49 (100)]
def wsX6_gravest_r2 : List Cond := [Cond.fieldLink RX6 25 "WheelDeskModel" "turn" "[J", Cond.methodLink RX6 45 yX6_axisAt, Cond.static yX6_axisAt, Cond.code yX6_axisAt cX6_axisAt 2 (some .int), Cond.methodLink RX6 63 yX6_div, Cond.static yX6_div, Cond.code yX6_div cX6_div 6 (some .long), Cond.methodLink RX6 130 yX6_held, Cond.static yX6_held, Cond.code yX6_held cX6_held 4 (some .long), Cond.methodLink RX6 104 yX6_rate, Cond.instanceMethod yX6_rate, Cond.selects RX6 yX6_rate yX6_rate, Cond.code yX6_rate cX6_rate 2 (some .long), Cond.methodLink RX6 152 yX6_shares, Cond.instanceMethod yX6_shares, Cond.selects RX6 yX6_shares yX6_shares, Cond.code yX6_shares cX6_shares 8 (some .boolean), Cond.fieldLink RX6 114 "WheelDeskModel" "det" "J", Cond.constantLong RX6 51 (-2000009), Cond.constantLong RX6 37 (10), Cond.constantLong RX6 61 (2), Cond.constantLong RX6 137 (20), Cond.constantLong RX6 139 (4)]
def wsX6_gravest_r3 : List Cond := [Cond.constantLong RX6 141 (3), Cond.methodLink RX6 122 yX6_spans, Cond.instanceMethod yX6_spans, Cond.selects RX6 yX6_spans yX6_spans, Cond.code yX6_spans cX6_spans 6 none, Cond.fieldLink RX6 19 "WheelDeskModel" "m" "[J", Cond.fieldLink RX6 22 "WheelDeskModel" "c" "[J", Cond.methodLink RX6 111 yX6_other, Cond.static yX6_other, Cond.code yX6_other cX6_other 2 (some .int), Cond.methodLink RX6 53 yX6_reasons, Cond.instanceMethod yX6_reasons, Cond.selects RX6 yX6_reasons yX6_reasons, Cond.code yX6_reasons cX6_reasons 7 none, Cond.methodLink RX6 126 yX6_wishOf, Cond.instanceMethod yX6_wishOf, Cond.selects RX6 yX6_wishOf yX6_wishOf, Cond.code yX6_wishOf cX6_wishOf 11 (some .long), Cond.methodLink RX6 118 yX6_nearest, Cond.static yX6_nearest, Cond.code yX6_nearest cX6_nearest 4 (some .long), Cond.methodLink RX6 133 yX6_room, Cond.instanceMethod yX6_room, Cond.selects RX6 yX6_room yX6_room]
def wsX6_gravest_r4 : List Cond := [Cond.code yX6_room cX6_room 8 (some .long), Cond.methodLink RX6 143 yX6_gives, Cond.instanceMethod yX6_gives, Cond.selects RX6 yX6_gives yX6_gives, Cond.code yX6_gives cX6_gives 5 none, Cond.methodLink RX6 156 yX6_drops, Cond.instanceMethod yX6_drops, Cond.selects RX6 yX6_drops yX6_drops, Cond.code yX6_drops cX6_drops 3 none, Cond.fieldLink RX6 31 "WheelDeskModel" "b" "[J", Cond.fieldLink RX6 28 "WheelDeskModel" "h" "[J", Cond.fieldLink RX6 34 "WheelDeskModel" "moment" "[J", Cond.constantLong RX6 150 (1000), Cond.methodLink RX6 146 yX6_product, Cond.static yX6_product, Cond.code yX6_product cX6_product 3 (some .long), Cond.methodLink RX6 100 yX6_pushes, Cond.instanceMethod yX6_pushes, Cond.selects RX6 yX6_pushes yX6_pushes, Cond.code yX6_pushes cX6_pushes 4 none, Cond.methodLink RX6 175 yX6_size, Cond.static yX6_size, Cond.code yX6_size cX6_size 2 (some .long)]
def wsX6_gravest : List Cond := .code yX6_gravest cX6_gravest 9 (some .int) :: ((wsX6_gravest_r1 ++ (wsX6_gravest_r2 ++ (wsX6_gravest_r3 ++ wsX6_gravest_r4))) ++ wsX60)
def wsX6_undo : List Cond := .code yX6_undo cX6_undo 2 (some .int) :: ([.fieldLink RX6 57 "WheelDeskModel" "pastMany" "I", .constant RX6 121 (-2000009), .fieldLink RX6 7 "WheelDeskModel" "v" "[J", .fieldLink RX6 16 "WheelDeskModel" "past" "[J"] ++ wsX60)
def wsX6_fingerprint_r1 : List Cond := [Cond.constantLong RX6 188 (5363), Cond.fieldLink RX6 7 "WheelDeskModel" "v" "[J", Cond.constantLong RX6 190 (31), Cond.constant RX6 121 (-2000009), Cond.fieldLink RX6 114 "WheelDeskModel" "det" "J", Cond.constantLong RX6 51 (-2000009), Cond.methodLink RX6 168 yX6_told, Cond.instanceMethod yX6_told, Cond.selects RX6 yX6_told yX6_told, Cond.initialized RX6, Cond.code yX6_told cX6_told 3 (some .long), Cond.methodLink RX6 45 yX6_axisAt, Cond.static yX6_axisAt, Cond.code yX6_axisAt cX6_axisAt 2 (some .int), Cond.methodLink RX6 104 yX6_rate, Cond.instanceMethod yX6_rate, Cond.selects RX6 yX6_rate yX6_rate, Cond.code yX6_rate cX6_rate 2 (some .long), Cond.methodLink RX6 63 yX6_div, Cond.static yX6_div, Cond.code yX6_div cX6_div 6 (some .long), Cond.methodLink RX6 165 yX6_whole, Cond.instanceMethod yX6_whole, Cond.selects RX6 yX6_whole yX6_whole]
def wsX6_fingerprint_r2 : List Cond := [Cond.code yX6_whole cX6_whole 5 (some .long), Cond.methodLink RX6 71 yX6_wheelAt, Cond.static yX6_wheelAt, Cond.code yX6_wheelAt cX6_wheelAt 2 (some .int), Cond.methodLink RX6 122 yX6_spans, Cond.instanceMethod yX6_spans, Cond.selects RX6 yX6_spans yX6_spans, Cond.code yX6_spans cX6_spans 6 none, Cond.fieldLink RX6 19 "WheelDeskModel" "m" "[J", Cond.fieldLink RX6 22 "WheelDeskModel" "c" "[J", Cond.methodLink RX6 108 yX6_works, Cond.instanceMethod yX6_works, Cond.selects RX6 yX6_works yX6_works, Cond.code yX6_works cX6_works 2 (some .boolean), Cond.methodLink RX6 111 yX6_other, Cond.static yX6_other, Cond.code yX6_other cX6_other 2 (some .int)]
def wsX6_fingerprint : List Cond := .code yX6_fingerprint cX6_fingerprint 5 (some .long) :: ((wsX6_fingerprint_r1 ++ wsX6_fingerprint_r2) ++ wsX60)
def wsJ9_abs_0f7a4 : List Cond := .code yJ9_abs_0f7a4 cJ9_abs_0f7a4 1 (some .int) :: ([])
def wsJ9_abs_067f4 : List Cond := .code yJ9_abs_067f4 cJ9_abs_067f4 2 (some .long) :: ([])
def wsJ9_max_7cf53 : List Cond := .code yJ9_max_7cf53 cJ9_max_7cf53 2 (some .int) :: ([])
def wsJ9_min_7cf53 : List Cond := .code yJ9_min_7cf53 cJ9_min_7cf53 2 (some .int) :: ([])
def wsL_law_r1 : List Cond := [Cond.classLink RL 7 RX5, Cond.instantiable RX5 5, Cond.initialized RX5, Cond.classLink RL 10 RX6, Cond.instantiable RX6 11, Cond.initialized RX6, Cond.methodLink RL 9 yX5_init, Cond.instanceMethod yX5_init, Cond.code yX5_init cX5_init 1 none, Cond.methodLink RX5 1 objectInit, Cond.instanceMethod objectInit, Cond.code objectInit ⟨#[0xb1]⟩ 1 none, Cond.classLink RX5 7 RX0, Cond.instantiable RX0 11, Cond.initialized RX0, Cond.fieldLink RX5 10 "WheelDesk" "craft" "LWheelDesk$Craft;", Cond.fieldLink RX5 16 "WheelDesk" "trial" "LWheelDesk$Craft;", Cond.classLink RX5 19 RX3, Cond.instantiable RX3 4, Cond.initialized RX3, Cond.fieldLink RX5 22 "WheelDesk" "sharing" "LWheelDesk$Sharing;", Cond.classLink RX5 26 RX2, Cond.instantiable RX2 2, Cond.initialized RX2]
def wsL_law_r2 : List Cond := [Cond.fieldLink RX5 29 "WheelDesk" "magnets" "LWheelDesk$Magnets;", Cond.classLink RX5 33 RX1, Cond.instantiable RX1 2, Cond.initialized RX1, Cond.fieldLink RX5 36 "WheelDesk" "history" "LWheelDesk$History;", Cond.methodLink RX5 9 yX0_init, Cond.instanceMethod yX0_init, Cond.code yX0_init cX0_init 2 none, Cond.methodLink RX0 3 objectInit, Cond.arrayClass .int, Cond.fieldLink RX0 9 "WheelDesk$Craft" "settings" "[I", Cond.classLink RX0 15 "[[I", Cond.fieldLink RX0 17 "WheelDesk$Craft" "given" "[[I", Cond.arrayClass .long, Cond.fieldLink RX0 20 "WheelDesk$Craft" "angle" "[J", Cond.fieldLink RX0 24 "WheelDesk$Craft" "momentum" "[J", Cond.fieldLink RX0 27 "WheelDesk$Craft" "outside" "[J", Cond.fieldLink RX0 30 "WheelDesk$Craft" "wished" "[J", Cond.classLink RX0 33 RX4, Cond.fieldLink RX0 35 "WheelDesk$Craft" "wheelRow" "[LWheelDesk$Wheel;", Cond.fieldLink RX0 39 "WheelDesk$Craft" "reasons" "[I", Cond.instantiable RX4 6, Cond.initialized RX4, Cond.fieldLink RX0 43 "WheelDesk$Craft" "reasonCount" "I"]
def wsL_law_r3 : List Cond := [Cond.instanceMethod yX4_init, Cond.code yX4_init cX4_init 1 none, Cond.methodLink RX4 3 objectInit, Cond.fieldLink RX4 9 "WheelDesk$Wheel" "direction" "[I", Cond.instanceMethod yX3_init, Cond.code yX3_init cX3_init 1 none, Cond.methodLink RX3 3 objectInit, Cond.classLink RX3 9 "[[J", Cond.fieldLink RX3 11 "WheelDesk$Sharing" "matrix" "[[J", Cond.fieldLink RX3 16 "WheelDesk$Sharing" "cofactor" "[[J", Cond.fieldLink RX3 19 "WheelDesk$Sharing" "aimed" "[J", Cond.instanceMethod yX2_init, Cond.code yX2_init cX2_init 1 none, Cond.methodLink RX2 3 objectInit, Cond.fieldLink RX2 9 "WheelDesk$Magnets" "held" "[J", Cond.fieldLink RX2 15 "WheelDesk$Magnets" "moment" "[J", Cond.methodLink RX5 35 yX1_init, Cond.instanceMethod yX1_init, Cond.code yX1_init cX1_init 2 none, Cond.methodLink RX1 3 objectInit, Cond.classLink RX1 9 RX0, Cond.fieldLink RX1 11 "WheelDesk$History" "states" "[LWheelDesk$Craft;", Cond.methodLink RX1 17 yX0_init, Cond.methodLink RL 12 yX6_init]
def wsL_law_r4 : List Cond := [Cond.instanceMethod yX6_init, Cond.code yX6_init cX6_init 2 none, Cond.methodLink RX6 1 objectInit, Cond.fieldLink RX6 7 "WheelDeskModel" "v" "[J", Cond.fieldLink RX6 13 "WheelDeskModel" "aside" "[J", Cond.fieldLink RX6 16 "WheelDeskModel" "past" "[J", Cond.fieldLink RX6 19 "WheelDeskModel" "m" "[J", Cond.fieldLink RX6 22 "WheelDeskModel" "c" "[J", Cond.fieldLink RX6 25 "WheelDeskModel" "turn" "[J", Cond.fieldLink RX6 28 "WheelDeskModel" "h" "[J", Cond.fieldLink RX6 31 "WheelDeskModel" "b" "[J", Cond.fieldLink RX6 34 "WheelDeskModel" "moment" "[J", Cond.constantLong RX6 37 (10), Cond.constantLong RX6 39 (60), Cond.constantLong RX6 41 (500), Cond.constantLong RX6 43 (2000), Cond.constantLong RX6 49 (100), Cond.constantLong RX6 51 (-2000009), Cond.methodLink RX6 45 yX6_axisAt, Cond.static yX6_axisAt, Cond.code yX6_axisAt cX6_axisAt 2 (some .int), Cond.methodLink RX6 53 yX6_reasons, Cond.instanceMethod yX6_reasons, Cond.selects RX6 yX6_reasons yX6_reasons]
def wsL_law_r5 : List Cond := [Cond.code yX6_reasons cX6_reasons 7 none, Cond.methodLink RL 13 yX5_addWheel, Cond.instanceMethod yX5_addWheel, Cond.selects RX5 yX5_addWheel yX5_addWheel, Cond.code yX5_addWheel cX5_addWheel 7 (some .int), Cond.constant RX5 44 (1000000), Cond.constant RX5 48 (100000), Cond.constant RX5 49 (-2000001), Cond.fieldLink RX5 50 "WheelDesk$Craft" "wheelCount" "I", Cond.constant RX5 54 (-2000003), Cond.fieldLink RX5 59 "WheelDesk$Craft" "wheelRow" "[LWheelDesk$Wheel;", Cond.methodLink RX5 40 yX5_isDirection, Cond.static yX5_isDirection, Cond.code yX5_isDirection cX5_isDirection 3 (some .boolean), Cond.methodLink RX5 45 yX5_isWithin, Cond.static yX5_isWithin, Cond.code yX5_isWithin cX5_isWithin 3 (some .boolean), Cond.methodLink RX5 55 yX1_keep, Cond.instanceMethod yX1_keep, Cond.selects RX1 yX1_keep yX1_keep, Cond.code yX1_keep cX1_keep 2 none, Cond.fieldLink RX1 18 "WheelDesk$History" "kept" "I", Cond.methodLink RX1 22 yX1_dropOldest, Cond.instanceMethod yX1_dropOldest]
def wsL_law_r6 : List Cond := [Cond.selects RX1 yX1_dropOldest yX1_dropOldest, Cond.code yX1_dropOldest cX1_dropOldest 3 none, Cond.methodLink RX1 25 yX0_become, Cond.instanceMethod yX0_become, Cond.selects RX0 yX0_become yX0_become, Cond.code yX0_become cX0_become 3 none, Cond.fieldLink RX0 47 "WheelDesk$Craft" "now" "I", Cond.methodLink RX0 50 arraycopyName, Cond.native arraycopyName, Cond.static arraycopyName, Cond.initialized "java/lang/System", Cond.fieldLink RX0 56 "WheelDesk$Craft" "wheelCount" "I", Cond.methodLink RX0 59 yX4_become, Cond.instanceMethod yX4_become, Cond.selects RX4 yX4_become yX4_become, Cond.code yX4_become cX4_become 2 none, Cond.methodLink RX4 32 arraycopyName, Cond.fieldLink RX4 15 "WheelDesk$Wheel" "momentum" "I", Cond.fieldLink RX4 19 "WheelDesk$Wheel" "mostMomentum" "I", Cond.fieldLink RX4 22 "WheelDesk$Wheel" "mostTorque" "I", Cond.fieldLink RX4 25 "WheelDesk$Wheel" "failed" "Z", Cond.fieldLink RX4 29 "WheelDesk$Wheel" "got" "I", Cond.methodLink RX5 63 yX4_start, Cond.instanceMethod yX4_start]
def wsL_law_r7 : List Cond := [Cond.selects RX4 yX4_start yX4_start, Cond.code yX4_start cX4_start 6 none, Cond.methodLink RL 17 yX6_addWheel, Cond.instanceMethod yX6_addWheel, Cond.selects RX6 yX6_addWheel yX6_addWheel, Cond.code yX6_addWheel cX6_addWheel 7 (some .int), Cond.constant RX6 78 (1000000), Cond.constant RX6 79 (100000), Cond.constant RX6 80 (-2000001), Cond.constantLong RX6 81 (6), Cond.constant RX6 83 (-2000003), Cond.methodLink RX6 74 yX6_isPart, Cond.static yX6_isPart, Cond.code yX6_isPart cX6_isPart 1 (some .boolean), Cond.methodLink RX6 67 yX6_in, Cond.static yX6_in, Cond.code yX6_in cX6_in 3 (some .boolean), Cond.methodLink RX6 84 yX6_act, Cond.instanceMethod yX6_act, Cond.selects RX6 yX6_act yX6_act, Cond.code yX6_act cX6_act 2 none, Cond.fieldLink RX6 57 "WheelDeskModel" "pastMany" "I", Cond.methodLink RX6 71 yX6_wheelAt, Cond.static yX6_wheelAt]
def wsL_law_r8 : List Cond := [Cond.code yX6_wheelAt cX6_wheelAt 2 (some .int), Cond.methodLink RL 18 yX5_fail, Cond.instanceMethod yX5_fail, Cond.selects RX5 yX5_fail yX5_fail, Cond.code yX5_fail cX5_fail 5 (some .int), Cond.fieldLink RX5 73 "WheelDesk$Wheel" "failed" "Z", Cond.methodLink RX5 69 yX5_isWheel, Cond.instanceMethod yX5_isWheel, Cond.selects RX5 yX5_isWheel yX5_isWheel, Cond.code yX5_isWheel cX5_isWheel 2 (some .boolean), Cond.methodLink RL 22 yX6_fail, Cond.instanceMethod yX6_fail, Cond.selects RX6 yX6_fail yX6_fail, Cond.code yX6_fail cX6_fail 3 (some .int), Cond.methodLink RX6 87 yX6_isWheel, Cond.instanceMethod yX6_isWheel, Cond.selects RX6 yX6_isWheel yX6_isWheel, Cond.code yX6_isWheel cX6_isWheel 2 (some .boolean), Cond.methodLink RX6 90 yX6_sets, Cond.instanceMethod yX6_sets, Cond.selects RX6 yX6_sets yX6_sets, Cond.code yX6_sets cX6_sets 4 (some .int), Cond.methodLink RL 23 yX5_setMost, Cond.instanceMethod yX5_setMost]
def wsL_law_r9 : List Cond := [Cond.selects RX5 yX5_setMost yX5_setMost, Cond.code yX5_setMost cX5_setMost 6 (some .int), Cond.fieldLink RX5 77 "WheelDesk$Wheel" "mostTorque" "I", Cond.fieldLink RX5 80 "WheelDesk$Wheel" "mostMomentum" "I", Cond.methodLink RL 27 yX6_setMost, Cond.instanceMethod yX6_setMost, Cond.selects RX6 yX6_setMost yX6_setMost, Cond.code yX6_setMost cX6_setMost 4 (some .int), Cond.methodLink RL 28 yX5_wheel, Cond.instanceMethod yX5_wheel, Cond.selects RX5 yX5_wheel yX5_wheel, Cond.code yX5_wheel cX5_wheel 3 (some .int), Cond.methodLink RX5 83 yX4_number, Cond.instanceMethod yX4_number, Cond.selects RX4 yX4_number yX4_number, Cond.code yX4_number cX4_number 2 (some .int), Cond.methodLink RL 32 yX6_wheel, Cond.instanceMethod yX6_wheel, Cond.selects RX6 yX6_wheel yX6_wheel, Cond.code yX6_wheel cX6_wheel 3 (some .int), Cond.methodLink RL 33 yX5_wheels, Cond.instanceMethod yX5_wheels, Cond.selects RX5 yX5_wheels yX5_wheels, Cond.code yX5_wheels cX5_wheels 1 (some .int)]
def wsL_law_r10 : List Cond := [Cond.methodLink RL 37 yX6_wheels, Cond.instanceMethod yX6_wheels, Cond.selects RX6 yX6_wheels yX6_wheels, Cond.code yX6_wheels cX6_wheels 1 (some .int), Cond.methodLink RL 38 yX5_setAxis, Cond.instanceMethod yX5_setAxis, Cond.selects RX5 yX5_setAxis yX5_setAxis, Cond.code yX5_setAxis cX5_setAxis 5 (some .int), Cond.fieldLink RX5 90 "WheelDesk" "LEAST_GIVEN" "[I", Cond.fieldLink RX5 94 "WheelDesk" "GREATEST_GIVEN" "[I", Cond.fieldLink RX5 97 "WheelDesk$Craft" "given" "[[I", Cond.methodLink RX5 87 yX5_isAxis, Cond.static yX5_isAxis, Cond.code yX5_isAxis cX5_isAxis 1 (some .boolean), Cond.methodLink RL 42 yX6_setAxis, Cond.instanceMethod yX6_setAxis, Cond.selects RX6 yX6_setAxis yX6_setAxis, Cond.code yX6_setAxis cX6_setAxis 5 (some .int), Cond.constant RX6 93 (-1000000), Cond.methodLink RX6 94 yX6_isAxis, Cond.static yX6_isAxis, Cond.code yX6_isAxis cX6_isAxis 1 (some .boolean), Cond.methodLink RL 43 yX5_set, Cond.instanceMethod yX5_set]
def wsL_law_r11 : List Cond := [Cond.selects RX5 yX5_set yX5_set, Cond.code yX5_set cX5_set 4 (some .int), Cond.fieldLink RX5 101 "WheelDesk" "LEAST_SETTING" "[I", Cond.fieldLink RX5 104 "WheelDesk" "GREATEST_SETTING" "[I", Cond.fieldLink RX5 107 "WheelDesk$Craft" "settings" "[I", Cond.methodLink RL 46 yX6_set, Cond.instanceMethod yX6_set, Cond.selects RX6 yX6_set yX6_set, Cond.code yX6_set cX6_set 5 (some .int), Cond.methodLink RL 47 yX5_setting, Cond.instanceMethod yX5_setting, Cond.selects RX5 yX5_setting yX5_setting, Cond.code yX5_setting cX5_setting 2 (some .int), Cond.methodLink RL 51 yX6_setting, Cond.instanceMethod yX6_setting, Cond.selects RX6 yX6_setting yX6_setting, Cond.code yX6_setting cX6_setting 2 (some .int), Cond.methodLink RL 52 yX5_strike, Cond.instanceMethod yX5_strike, Cond.selects RX5 yX5_strike yX5_strike, Cond.code yX5_strike cX5_strike 3 (some .long), Cond.constant RX5 110 (-100000), Cond.constantLong RX5 111 (-4611686018427387905), Cond.methodLink RX5 113 yX0_pushFromOutside]
def wsL_law_r12 : List Cond := [Cond.instanceMethod yX0_pushFromOutside, Cond.selects RX0 yX0_pushFromOutside yX0_pushFromOutside, Cond.code yX0_pushFromOutside cX0_pushFromOutside 4 none, Cond.methodLink RX5 117 yX0_rate, Cond.instanceMethod yX0_rate, Cond.selects RX0 yX0_rate yX0_rate, Cond.code yX0_rate cX0_rate 2 (some .long), Cond.static yX5_quotient, Cond.code yX5_quotient cX5_quotient 4 (some .long), Cond.methodLink RX5 214 yJ9_floorDiv_f86c9, Cond.static yJ9_floorDiv_f86c9, Cond.initialized RJ9, Cond.code yJ9_floorDiv_f86c9 cJ9_floorDiv_f86c9 6 (some .long), Cond.methodLink RL 56 yX6_strike, Cond.instanceMethod yX6_strike, Cond.selects RX6 yX6_strike yX6_strike, Cond.code yX6_strike cX6_strike 3 (some .long), Cond.constant RX6 97 (-100000), Cond.constantLong RX6 98 (-4611686018427387905), Cond.methodLink RX6 100 yX6_pushes, Cond.instanceMethod yX6_pushes, Cond.selects RX6 yX6_pushes yX6_pushes, Cond.code yX6_pushes cX6_pushes 4 none, Cond.methodLink RX6 104 yX6_rate]
def wsL_law_r13 : List Cond := [Cond.instanceMethod yX6_rate, Cond.selects RX6 yX6_rate yX6_rate, Cond.code yX6_rate cX6_rate 2 (some .long), Cond.methodLink RX6 63 yX6_div, Cond.static yX6_div, Cond.code yX6_div cX6_div 6 (some .long), Cond.methodLink RL 57 yX5_tick, Cond.instanceMethod yX5_tick, Cond.selects RX5 yX5_tick yX5_tick, Cond.code yX5_tick cX5_tick 4 (some .int), Cond.fieldLink RX5 121 "WheelDesk$Craft" "now" "I", Cond.constant RX5 124 (50000), Cond.constant RX5 125 (-2000002), Cond.constant RX5 126 (-2000009), Cond.methodLink RX5 127 yX3_measure, Cond.instanceMethod yX3_measure, Cond.selects RX3 yX3_measure yX3_measure, Cond.code yX3_measure cX3_measure 5 none, Cond.fieldLink RX3 23 "WheelDesk$Craft" "wheelCount" "I", Cond.fieldLink RX3 29 "WheelDesk$Craft" "wheelRow" "[LWheelDesk$Wheel;", Cond.fieldLink RX3 33 "WheelDesk$Wheel" "failed" "Z", Cond.fieldLink RX3 39 "WheelDesk$Wheel" "direction" "[I", Cond.fieldLink RX3 50 "WheelDesk$Sharing" "determinant" "J", Cond.methodLink RX3 43 yX3_addProducts]
def wsL_law_r14 : List Cond := [Cond.instanceMethod yX3_addProducts, Cond.selects RX3 yX3_addProducts yX3_addProducts, Cond.code yX3_addProducts cX3_addProducts 4 none, Cond.methodLink RX3 47 yX3_findCofactors, Cond.instanceMethod yX3_findCofactors, Cond.selects RX3 yX3_findCofactors yX3_findCofactors, Cond.code yX3_findCofactors cX3_findCofactors 7 none, Cond.static yX5_axisAfter, Cond.code yX5_axisAfter cX5_axisAfter 2 (some .int), Cond.methodLink RX5 131 yX5_passOne, Cond.instanceMethod yX5_passOne, Cond.selects RX5 yX5_passOne yX5_passOne, Cond.code yX5_passOne cX5_passOne 2 none, Cond.methodLink RX5 219 yX0_findWish, Cond.instanceMethod yX0_findWish, Cond.selects RX0 yX0_findWish yX0_findWish, Cond.code yX0_findWish cX0_findWish 12 none, Cond.constantLong RX0 90 (100), Cond.static yX5_limited, Cond.code yX5_limited cX5_limited 6 (some .long), Cond.methodLink RX0 63 yX0_rate, Cond.methodLink RX5 222 yX3_share, Cond.instanceMethod yX3_share, Cond.selects RX3 yX3_share yX3_share]
def wsL_law_r15 : List Cond := [Cond.code yX3_share cX3_share 3 none, Cond.fieldLink RX3 70 "WheelDesk$Wheel" "got" "I", Cond.fieldLink RX3 79 "WheelDesk$Craft" "wished" "[J", Cond.methodLink RX3 58 yX3_spans, Cond.instanceMethod yX3_spans, Cond.selects RX3 yX3_spans yX3_spans, Cond.code yX3_spans cX3_spans 1 (some .boolean), Cond.methodLink RX3 73 yX0_tellNoSpan, Cond.instanceMethod yX0_tellNoSpan, Cond.selects RX0 yX0_tellNoSpan yX0_tellNoSpan, Cond.code yX0_tellNoSpan cX0_tellNoSpan 2 none, Cond.fieldLink RX0 100 "WheelDesk$Wheel" "failed" "Z", Cond.methodLink RX3 76 yX0_tellMet, Cond.instanceMethod yX0_tellMet, Cond.selects RX0 yX0_tellMet yX0_tellMet, Cond.code yX0_tellMet cX0_tellMet 1 none, Cond.methodLink RX3 82 yX3_aim, Cond.instanceMethod yX3_aim, Cond.selects RX3 yX3_aim yX3_aim, Cond.code yX3_aim cX3_aim 8 none, Cond.methodLink RX3 86 yX3_give, Cond.instanceMethod yX3_give, Cond.selects RX3 yX3_give yX3_give, Cond.code yX3_give cX3_give 11 none]
def wsL_law_r16 : List Cond := [Cond.fieldLink RX3 101 "WheelDesk$Wheel" "momentum" "I", Cond.fieldLink RX3 104 "WheelDesk$Craft" "momentum" "[J", Cond.methodLink RX3 90 yX3_wishOf, Cond.instanceMethod yX3_wishOf, Cond.selects RX3 yX3_wishOf yX3_wishOf, Cond.code yX3_wishOf cX3_wishOf 5 (some .long), Cond.constantLong RX3 62 (2), Cond.methodLink RX3 64 yJ9_floorDiv_f86c9, Cond.methodLink RX3 94 yX4_allowedByTorque, Cond.instanceMethod yX4_allowedByTorque, Cond.selects RX4 yX4_allowedByTorque yX4_allowedByTorque, Cond.code yX4_allowedByTorque cX4_allowedByTorque 3 (some .long), Cond.methodLink RX3 98 yX4_allowedByMomentum, Cond.instanceMethod yX4_allowedByMomentum, Cond.selects RX4 yX4_allowedByMomentum yX4_allowedByMomentum, Cond.code yX4_allowedByMomentum cX4_allowedByMomentum 7 (some .long), Cond.methodLink RX4 42 Lib.Math.min.name, Cond.static Lib.Math.min.name, Cond.initialized "java/lang/Math", Cond.code Lib.Math.min.name Lib.Math.min.code 2 (some .int), Cond.methodLink RX4 48 Lib.Math.max.name, Cond.static Lib.Math.max.name, Cond.code Lib.Math.max.name Lib.Math.max.code 2 (some .int), Cond.methodLink RX3 106 yX0_isMet]
def wsL_law_r17 : List Cond := [Cond.instanceMethod yX0_isMet, Cond.selects RX0 yX0_isMet yX0_isMet, Cond.code yX0_isMet cX0_isMet 1 (some .boolean), Cond.methodLink RX3 109 yX0_tellLimited, Cond.instanceMethod yX0_tellLimited, Cond.selects RX0 yX0_tellLimited yX0_tellLimited, Cond.code yX0_tellLimited cX0_tellLimited 3 none, Cond.methodLink RX5 225 yX2_letGo, Cond.instanceMethod yX2_letGo, Cond.selects RX2 yX2_letGo yX2_letGo, Cond.code yX2_letGo cX2_letGo 6 none, Cond.fieldLink RX2 18 "WheelDesk$Craft" "given" "[[I", Cond.fieldLink RX2 24 "WheelDesk$Craft" "settings" "[I", Cond.constantLong RX2 36 (1000), Cond.constantLong RX2 46 (100), Cond.methodLink RX2 28 yX0_wheelMomentum, Cond.instanceMethod yX0_wheelMomentum, Cond.selects RX0 yX0_wheelMomentum yX0_wheelMomentum, Cond.code yX0_wheelMomentum cX0_wheelMomentum 5 (some .long), Cond.fieldLink RX0 76 "WheelDesk$Wheel" "direction" "[I", Cond.fieldLink RX0 79 "WheelDesk$Wheel" "momentum" "I", Cond.methodLink RX2 32 yX2_crossed, Cond.static yX2_crossed, Cond.code yX2_crossed cX2_crossed 5 (some .long)]
def wsL_law_r18 : List Cond := [Cond.methodLink RX2 48 yX0_pushFromOutside, Cond.methodLink RX5 228 yX0_disturb, Cond.instanceMethod yX0_disturb, Cond.selects RX0 yX0_disturb yX0_disturb, Cond.code yX0_disturb cX0_disturb 2 none, Cond.methodLink RX0 96 yX0_pushFromOutside, Cond.methodLink RX5 231 yX0_turn, Cond.instanceMethod yX0_turn, Cond.selects RX0 yX0_turn yX0_turn, Cond.code yX0_turn cX0_turn 2 none, Cond.methodLink RX5 134 yX0_isMet, Cond.methodLink RL 60 yX6_tick, Cond.instanceMethod yX6_tick, Cond.selects RX6 yX6_tick yX6_tick, Cond.code yX6_tick cX6_tick 4 (some .int), Cond.constantLong RX6 159 (50000), Cond.constant RX6 161 (-2000002), Cond.methodLink RX6 162 yX6_passes, Cond.instanceMethod yX6_passes, Cond.selects RX6 yX6_passes yX6_passes, Cond.code yX6_passes cX6_passes 4 (some .boolean), Cond.methodLink RX6 130 yX6_held, Cond.static yX6_held, Cond.code yX6_held cX6_held 4 (some .long)]
def wsL_law_r19 : List Cond := [Cond.methodLink RX6 152 yX6_shares, Cond.instanceMethod yX6_shares, Cond.selects RX6 yX6_shares yX6_shares, Cond.code yX6_shares cX6_shares 8 (some .boolean), Cond.constant RX6 121 (-2000009), Cond.fieldLink RX6 114 "WheelDeskModel" "det" "J", Cond.constantLong RX6 61 (2), Cond.constantLong RX6 137 (20), Cond.constantLong RX6 139 (4), Cond.constantLong RX6 141 (3), Cond.methodLink RX6 122 yX6_spans, Cond.instanceMethod yX6_spans, Cond.selects RX6 yX6_spans yX6_spans, Cond.code yX6_spans cX6_spans 6 none, Cond.methodLink RX6 108 yX6_works, Cond.instanceMethod yX6_works, Cond.selects RX6 yX6_works yX6_works, Cond.code yX6_works cX6_works 2 (some .boolean), Cond.methodLink RX6 111 yX6_other, Cond.static yX6_other, Cond.code yX6_other cX6_other 2 (some .int), Cond.methodLink RX6 126 yX6_wishOf, Cond.instanceMethod yX6_wishOf, Cond.selects RX6 yX6_wishOf yX6_wishOf]
def wsL_law_r20 : List Cond := [Cond.code yX6_wishOf cX6_wishOf 11 (some .long), Cond.methodLink RX6 118 yX6_nearest, Cond.static yX6_nearest, Cond.code yX6_nearest cX6_nearest 4 (some .long), Cond.methodLink RX6 133 yX6_room, Cond.instanceMethod yX6_room, Cond.selects RX6 yX6_room yX6_room, Cond.code yX6_room cX6_room 8 (some .long), Cond.methodLink RX6 143 yX6_gives, Cond.instanceMethod yX6_gives, Cond.selects RX6 yX6_gives yX6_gives, Cond.code yX6_gives cX6_gives 5 none, Cond.methodLink RX6 156 yX6_drops, Cond.instanceMethod yX6_drops, Cond.selects RX6 yX6_drops yX6_drops, Cond.code yX6_drops cX6_drops 3 none, Cond.constantLong RX6 150 (1000), Cond.methodLink RX6 146 yX6_product, Cond.static yX6_product, Cond.code yX6_product cX6_product 3 (some .long), Cond.methodLink RL 61 yX5_time, Cond.instanceMethod yX5_time, Cond.selects RX5 yX5_time yX5_time, Cond.code yX5_time cX5_time 1 (some .int)]
def wsL_law_r21 : List Cond := [Cond.methodLink RL 64 yX6_time, Cond.instanceMethod yX6_time, Cond.selects RX6 yX6_time yX6_time, Cond.code yX6_time cX6_time 1 (some .int), Cond.methodLink RL 65 yX5_axis, Cond.instanceMethod yX5_axis, Cond.selects RX5 yX5_axis yX5_axis, Cond.code yX5_axis cX5_axis 3 (some .long), Cond.methodLink RX5 138 yX0_number, Cond.instanceMethod yX0_number, Cond.selects RX0 yX0_number yX0_number, Cond.code yX0_number cX0_number 3 (some .long), Cond.constantLong RX0 70 (-4611686018427387905), Cond.methodLink RX0 67 yX0_wheelMomentum, Cond.methodLink RL 68 yX6_axis, Cond.instanceMethod yX6_axis, Cond.selects RX6 yX6_axis yX6_axis, Cond.code yX6_axis cX6_axis 3 (some .long), Cond.methodLink RX6 168 yX6_told, Cond.instanceMethod yX6_told, Cond.selects RX6 yX6_told yX6_told, Cond.code yX6_told cX6_told 3 (some .long), Cond.methodLink RX6 165 yX6_whole, Cond.instanceMethod yX6_whole]
def wsL_law_r22 : List Cond := [Cond.selects RX6 yX6_whole yX6_whole, Cond.code yX6_whole cX6_whole 5 (some .long), Cond.methodLink RL 69 yX5_span, Cond.instanceMethod yX5_span, Cond.selects RX5 yX5_span yX5_span, Cond.code yX5_span cX5_span 1 (some .long), Cond.fieldLink RX5 141 "WheelDesk$Sharing" "determinant" "J", Cond.methodLink RL 73 yX6_span, Cond.instanceMethod yX6_span, Cond.selects RX6 yX6_span yX6_span, Cond.code yX6_span cX6_span 1 (some .long), Cond.methodLink RL 74 yX5_wish, Cond.instanceMethod yX5_wish, Cond.selects RX5 yX5_wish yX5_wish, Cond.code yX5_wish cX5_wish 6 (some .long), Cond.methodLink RX5 145 yX5_isTorque, Cond.static yX5_isTorque, Cond.code yX5_isTorque cX5_isTorque 1 (some .boolean), Cond.methodLink RX5 148 yX3_spans, Cond.methodLink RX5 151 yX3_aim, Cond.methodLink RX5 155 yX3_wishOf, Cond.methodLink RL 78 yX6_wish, Cond.instanceMethod yX6_wish, Cond.selects RX6 yX6_wish yX6_wish]
def wsL_law_r23 : List Cond := [Cond.code yX6_wish cX6_wish 5 (some .long), Cond.methodLink RX6 172 yX6_isTorque, Cond.static yX6_isTorque, Cond.code yX6_isTorque cX6_isTorque 1 (some .boolean), Cond.methodLink RL 79 yX5_why, Cond.instanceMethod yX5_why, Cond.selects RX5 yX5_why yX5_why, Cond.code yX5_why cX5_why 2 (some .int), Cond.fieldLink RX5 159 "WheelDesk$Craft" "reasonCount" "I", Cond.fieldLink RX5 162 "WheelDesk$Craft" "reasons" "[I", Cond.methodLink RL 82 yX6_why, Cond.instanceMethod yX6_why, Cond.selects RX6 yX6_why yX6_why, Cond.code yX6_why cX6_why 2 (some .int), Cond.methodLink RL 83 yX5_fullness, Cond.instanceMethod yX5_fullness, Cond.selects RX5 yX5_fullness yX5_fullness, Cond.code yX5_fullness cX5_fullness 4 (some .float), Cond.methodLink RX5 165 yX4_fullPart, Cond.instanceMethod yX4_fullPart, Cond.selects RX4 yX4_fullPart yX4_fullPart, Cond.code yX4_fullPart cX4_fullPart 2 (some .float), Cond.methodLink RX4 51 Lib.Math.abs.name, Cond.static Lib.Math.abs.name]
def wsL_law_r24 : List Cond := [Cond.code Lib.Math.abs.name Lib.Math.abs.code 1 (some .int), Cond.methodLink RL 87 yX6_fullness, Cond.instanceMethod yX6_fullness, Cond.selects RX6 yX6_fullness yX6_fullness, Cond.code yX6_fullness cX6_fullness 4 (some .float), Cond.methodLink RX6 175 yX6_size, Cond.static yX6_size, Cond.code yX6_size cX6_size 2 (some .long), Cond.methodLink RL 88 yX5_arrives, Cond.instanceMethod yX5_arrives, Cond.selects RX5 yX5_arrives yX5_arrives, Cond.code yX5_arrives cX5_arrives 3 (some .int), Cond.methodLink RX5 169 yX0_become, Cond.methodLink RX5 172 yX0_isOnTarget, Cond.instanceMethod yX0_isOnTarget, Cond.selects RX0 yX0_isOnTarget yX0_isOnTarget, Cond.code yX0_isOnTarget cX0_isOnTarget 3 (some .boolean), Cond.methodLink RX0 81 Lib.MathLoose.abs_long.x, Cond.static Lib.MathLoose.abs_long.x, Cond.code Lib.MathLoose.abs_long.x Lib.MathLoose.abs_long.code 2 (some .long), Cond.methodLink RX0 87 yX0_aside, Cond.instanceMethod yX0_aside, Cond.selects RX0 yX0_aside yX0_aside, Cond.code yX0_aside cX0_aside 2 (some .long)]
def wsL_law_r25 : List Cond := [Cond.methodLink RL 91 yX6_arrives, Cond.instanceMethod yX6_arrives, Cond.selects RX6 yX6_arrives yX6_arrives, Cond.code yX6_arrives cX6_arrives 5 (some .int), Cond.methodLink RX6 179 yX6_copies, Cond.static yX6_copies, Cond.code yX6_copies cX6_copies 3 none, Cond.methodLink RX6 183 yX6_isThere, Cond.instanceMethod yX6_isThere, Cond.selects RX6 yX6_isThere yX6_isThere, Cond.code yX6_isThere cX6_isThere 4 (some .boolean), Cond.methodLink RL 92 yX5_spare, Cond.instanceMethod yX5_spare, Cond.selects RX5 yX5_spare yX5_spare, Cond.code yX5_spare cX5_spare 3 (some .int), Cond.methodLink RL 95 yX6_spare, Cond.instanceMethod yX6_spare, Cond.selects RX6 yX6_spare yX6_spare, Cond.code yX6_spare cX6_spare 3 (some .int), Cond.methodLink RL 96 yX5_gravest, Cond.instanceMethod yX5_gravest, Cond.selects RX5 yX5_gravest yX5_gravest, Cond.code yX5_gravest cX5_gravest 8 (some .int), Cond.methodLink RX5 175 yX5_offWithout]
def wsL_law_r26 : List Cond := [Cond.instanceMethod yX5_offWithout, Cond.selects RX5 yX5_offWithout yX5_offWithout, Cond.code yX5_offWithout cX5_offWithout 4 (some .long), Cond.methodLink RX5 234 yX0_offTarget, Cond.instanceMethod yX0_offTarget, Cond.selects RX0 yX0_offTarget yX0_offTarget, Cond.code yX0_offTarget cX0_offTarget 4 (some .long), Cond.methodLink RL 99 yX6_gravest, Cond.instanceMethod yX6_gravest, Cond.selects RX6 yX6_gravest yX6_gravest, Cond.code yX6_gravest cX6_gravest 9 (some .int), Cond.constantLong RX6 186 (-1), Cond.methodLink RL 100 yX5_undo, Cond.instanceMethod yX5_undo, Cond.selects RX5 yX5_undo yX5_undo, Cond.code yX5_undo cX5_undo 1 (some .int), Cond.methodLink RX5 178 yX1_giveBack, Cond.instanceMethod yX1_giveBack, Cond.selects RX1 yX1_giveBack yX1_giveBack, Cond.code yX1_giveBack cX1_giveBack 2 (some .int), Cond.constant RX1 29 (-2000009), Cond.methodLink RL 103 yX6_undo, Cond.instanceMethod yX6_undo, Cond.selects RX6 yX6_undo yX6_undo]
def wsL_law_r27 : List Cond := [Cond.code yX6_undo cX6_undo 2 (some .int), Cond.methodLink RL 104 yX5_fingerprint, Cond.instanceMethod yX5_fingerprint, Cond.selects RX5 yX5_fingerprint yX5_fingerprint, Cond.code yX5_fingerprint cX5_fingerprint 5 (some .long), Cond.constantLong RX5 182 (173), Cond.methodLink RX5 184 yX5_time, Cond.methodLink RX5 188 yX5_mixed, Cond.static yX5_mixed, Cond.code yX5_mixed cX5_mixed 4 (some .long), Cond.constantLong RX5 212 (31), Cond.methodLink RX5 192 yX5_setting, Cond.methodLink RX5 195 yX5_axis, Cond.methodLink RX5 198 yX5_wheels, Cond.methodLink RX5 201 yX5_wheel, Cond.methodLink RX5 205 yX5_span, Cond.methodLink RX5 209 yX5_why, Cond.methodLink RL 107 yX6_fingerprint, Cond.instanceMethod yX6_fingerprint, Cond.selects RX6 yX6_fingerprint yX6_fingerprint, Cond.code yX6_fingerprint cX6_fingerprint 5 (some .long), Cond.constantLong RX6 188 (5363), Cond.constantLong RX6 190 (31)]
def wsL_law : List Cond := (wsL_law_r1 ++ (wsL_law_r2 ++ (wsL_law_r3 ++ (wsL_law_r4 ++ (wsL_law_r5 ++ (wsL_law_r6 ++ (wsL_law_r7 ++ (wsL_law_r8 ++ (wsL_law_r9 ++ (wsL_law_r10 ++ (wsL_law_r11 ++ (wsL_law_r12 ++ (wsL_law_r13 ++ (wsL_law_r14 ++ (wsL_law_r15 ++ (wsL_law_r16 ++ (wsL_law_r17 ++ (wsL_law_r18 ++ (wsL_law_r19 ++ (wsL_law_r20 ++ (wsL_law_r21 ++ (wsL_law_r22 ++ (wsL_law_r23 ++ (wsL_law_r24 ++ (wsL_law_r25 ++ (wsL_law_r26 ++ wsL_law_r27)))))))))))))))))))))))))) ++ wsX50 ++ wsX60 ++ wsX00 ++ wsX30 ++ wsX20 ++ wsX10 ++ wsX40 ++ ([] : List Cond)
set_option maxRecDepth 20000 in
theorem wsL_law_in : ∀ w ∈ wsL_law, w ∈ lw_tbl := fun w h => (goodIn_p wsL_law [38, 41, 46, 55, 139, 161, 174, 526, 534, 540, 205, 208, 211, 219, 223, 227, 234, 239, 578, 581, 584, 593, 596, 243, 247, 600, 604, 608, 251, 612, 255, 259, 616, 263, 620, 267, 270, 624, 628, 278, 632, 286, 636, 290, 296, 300, 303, 306, 640, 646, 650, 653, 310, 317, 321, 325, 328, 332, 336, 340, 345, 349, 353, 357, 361, 365, 369, 375, 380, 383, 386, 390, 394, 398, 402, 405, 415, 420, 657, 663, 666, 670, 675, 679, 682, 686, 689, 694, 701, 705, 708, 425, 713, 429, 433, 717, 721, 725, 439, 729, 443, 446, 733, 736, 453, 740, 457, 461, 464, 744, 747, 468, 473, 480, 477, 751, 754, 758, 484, 762, 488, 492, 496, 766, 500, 504, 771, 509, 514, 775] (by decide +kernel) (by decide +kernel) w h).1
theorem inlX0 : ∀ w ∈ wsX00, w ∈ wsL_law := fun _ h => List.mem_append_left _ (List.mem_append_left _ (List.mem_append_left _ (List.mem_append_left _ (List.mem_append_left _ (List.mem_append_right _ h)))))
theorem inX0 : ∀ w ∈ wsX00, w ∈ lw_tbl := fun w h => wsL_law_in w (inlX0 w h)
theorem inlX1 : ∀ w ∈ wsX10, w ∈ wsL_law := fun _ h => List.mem_append_left _ (List.mem_append_left _ (List.mem_append_right _ h))
theorem inX1 : ∀ w ∈ wsX10, w ∈ lw_tbl := fun w h => wsL_law_in w (inlX1 w h)
theorem inlX2 : ∀ w ∈ wsX20, w ∈ wsL_law := fun _ h => List.mem_append_left _ (List.mem_append_left _ (List.mem_append_left _ (List.mem_append_right _ h)))
theorem inX2 : ∀ w ∈ wsX20, w ∈ lw_tbl := fun w h => wsL_law_in w (inlX2 w h)
theorem inlX3 : ∀ w ∈ wsX30, w ∈ wsL_law := fun _ h => List.mem_append_left _ (List.mem_append_left _ (List.mem_append_left _ (List.mem_append_left _ (List.mem_append_right _ h))))
theorem inX3 : ∀ w ∈ wsX30, w ∈ lw_tbl := fun w h => wsL_law_in w (inlX3 w h)
theorem inlX4 : ∀ w ∈ wsX40, w ∈ wsL_law := fun _ h => List.mem_append_left _ (List.mem_append_right _ h)
theorem inX4 : ∀ w ∈ wsX40, w ∈ lw_tbl := fun w h => wsL_law_in w (inlX4 w h)
theorem inlX5 : ∀ w ∈ wsX50, w ∈ wsL_law := fun _ h => List.mem_append_left _ (List.mem_append_left _ (List.mem_append_left _ (List.mem_append_left _ (List.mem_append_left _ (List.mem_append_left _ (List.mem_append_left _ (List.mem_append_right _ h)))))))
theorem inX5 : ∀ w ∈ wsX50, w ∈ lw_tbl := fun w h => wsL_law_in w (inlX5 w h)
theorem inlX6 : ∀ w ∈ wsX60, w ∈ wsL_law := fun _ h => List.mem_append_left _ (List.mem_append_left _ (List.mem_append_left _ (List.mem_append_left _ (List.mem_append_left _ (List.mem_append_left _ (List.mem_append_right _ h))))))
theorem inX6 : ∀ w ∈ wsX60, w ∈ lw_tbl := fun w h => wsL_law_in w (inlX6 w h)
theorem inJ9 : ∀ w ∈ wsJ90, w ∈ lw_tbl := by decide +kernel
theorem inJ10 : ∀ w ∈ wsJ100, w ∈ lw_tbl := by decide +kernel
set_option maxRecDepth 20000 in
theorem ggX0_init_X4_init : GoodIn wsX0_init wsX4_init := goodIn_r _ [20, 21, 2, 3, 4, 22, 34, 35, 36, 37, 38, 39] (by decide +kernel) (by decide +kernel)
set_option maxRecDepth 20000 in
theorem gX0_init_X4_init_n42 : GoodIn wsX0_init (wsX4_init) := ggX0_init_X4_init
theorem dX0_init_0 : decode cX0_init 0 = .ok (.aload_n 0, 1) := by decide +kernel
theorem dX0_init_1 : decode cX0_init 1 = .ok (.invokespecial 3, 3) := by decide +kernel
theorem dX0_init_4 : decode cX0_init 4 = .ok (.aload_n 0, 1) := by decide +kernel
theorem dX0_init_5 : decode cX0_init 5 = .ok (.iconst 5, 1) := by decide +kernel
theorem dX0_init_6 : decode cX0_init 6 = .ok (.newarray .int, 2) := by decide +kernel
theorem dX0_init_8 : decode cX0_init 8 = .ok (.putfield 9, 3) := by decide +kernel
theorem dX0_init_11 : decode cX0_init 11 = .ok (.aload_n 0, 1) := by decide +kernel
theorem dX0_init_12 : decode cX0_init 12 = .ok (.iconst 4, 1) := by decide +kernel
theorem dX0_init_13 : decode cX0_init 13 = .ok (.iconst 3, 1) := by decide +kernel
theorem dX0_init_14 : decode cX0_init 14 = .ok (.multianewarray 15 2, 4) := by decide +kernel
theorem dX0_init_18 : decode cX0_init 18 = .ok (.putfield 17, 3) := by decide +kernel
theorem dX0_init_21 : decode cX0_init 21 = .ok (.aload_n 0, 1) := by decide +kernel
theorem dX0_init_22 : decode cX0_init 22 = .ok (.iconst 3, 1) := by decide +kernel
theorem dX0_init_23 : decode cX0_init 23 = .ok (.newarray .long, 2) := by decide +kernel
theorem dX0_init_25 : decode cX0_init 25 = .ok (.putfield 20, 3) := by decide +kernel
theorem dX0_init_28 : decode cX0_init 28 = .ok (.aload_n 0, 1) := by decide +kernel
theorem dX0_init_29 : decode cX0_init 29 = .ok (.iconst 3, 1) := by decide +kernel
theorem dX0_init_30 : decode cX0_init 30 = .ok (.newarray .long, 2) := by decide +kernel
theorem dX0_init_32 : decode cX0_init 32 = .ok (.putfield 24, 3) := by decide +kernel
theorem dX0_init_35 : decode cX0_init 35 = .ok (.aload_n 0, 1) := by decide +kernel
theorem dX0_init_36 : decode cX0_init 36 = .ok (.iconst 3, 1) := by decide +kernel
theorem dX0_init_37 : decode cX0_init 37 = .ok (.newarray .long, 2) := by decide +kernel
theorem dX0_init_39 : decode cX0_init 39 = .ok (.putfield 27, 3) := by decide +kernel
theorem dX0_init_42 : decode cX0_init 42 = .ok (.aload_n 0, 1) := by decide +kernel
theorem dX0_init_43 : decode cX0_init 43 = .ok (.iconst 3, 1) := by decide +kernel
theorem dX0_init_44 : decode cX0_init 44 = .ok (.newarray .long, 2) := by decide +kernel
theorem dX0_init_46 : decode cX0_init 46 = .ok (.putfield 30, 3) := by decide +kernel
theorem dX0_init_49 : decode cX0_init 49 = .ok (.aload_n 0, 1) := by decide +kernel
theorem dX0_init_50 : decode cX0_init 50 = .ok (.bipush 6, 2) := by decide +kernel
theorem dX0_init_52 : decode cX0_init 52 = .ok (.anewarray 33, 3) := by decide +kernel
theorem dX0_init_55 : decode cX0_init 55 = .ok (.putfield 35, 3) := by decide +kernel
theorem dX0_init_58 : decode cX0_init 58 = .ok (.aload_n 0, 1) := by decide +kernel
theorem dX0_init_59 : decode cX0_init 59 = .ok (.iconst 3, 1) := by decide +kernel
theorem dX0_init_60 : decode cX0_init 60 = .ok (.newarray .int, 2) := by decide +kernel
theorem dX0_init_62 : decode cX0_init 62 = .ok (.putfield 39, 3) := by decide +kernel
theorem dX0_init_65 : decode cX0_init 65 = .ok (.aload_n 0, 1) := by decide +kernel
theorem dX0_init_66 : decode cX0_init 66 = .ok (.getfield 9, 3) := by decide +kernel
theorem dX0_init_69 : decode cX0_init 69 = .ok (.iconst 0, 1) := by decide +kernel
theorem dX0_init_70 : decode cX0_init 70 = .ok (.bipush 10, 2) := by decide +kernel
theorem dX0_init_72 : decode cX0_init 72 = .ok (.iastore, 1) := by decide +kernel
theorem dX0_init_73 : decode cX0_init 73 = .ok (.aload_n 0, 1) := by decide +kernel
theorem dX0_init_74 : decode cX0_init 74 = .ok (.getfield 9, 3) := by decide +kernel
theorem dX0_init_77 : decode cX0_init 77 = .ok (.iconst 1, 1) := by decide +kernel
theorem dX0_init_78 : decode cX0_init 78 = .ok (.bipush 60, 2) := by decide +kernel
theorem dX0_init_80 : decode cX0_init 80 = .ok (.iastore, 1) := by decide +kernel
theorem dX0_init_81 : decode cX0_init 81 = .ok (.aload_n 0, 1) := by decide +kernel
theorem dX0_init_82 : decode cX0_init 82 = .ok (.getfield 9, 3) := by decide +kernel
theorem dX0_init_85 : decode cX0_init 85 = .ok (.iconst 2, 1) := by decide +kernel
theorem dX0_init_86 : decode cX0_init 86 = .ok (.sipush 500, 3) := by decide +kernel
theorem dX0_init_89 : decode cX0_init 89 = .ok (.iastore, 1) := by decide +kernel
theorem dX0_init_90 : decode cX0_init 90 = .ok (.aload_n 0, 1) := by decide +kernel
theorem dX0_init_91 : decode cX0_init 91 = .ok (.getfield 9, 3) := by decide +kernel
theorem dX0_init_94 : decode cX0_init 94 = .ok (.iconst 3, 1) := by decide +kernel
theorem dX0_init_95 : decode cX0_init 95 = .ok (.sipush 2000, 3) := by decide +kernel
theorem dX0_init_98 : decode cX0_init 98 = .ok (.iastore, 1) := by decide +kernel
theorem dX0_init_99 : decode cX0_init 99 = .ok (.iconst 0, 1) := by decide +kernel
theorem dX0_init_100 : decode cX0_init 100 = .ok (.istore_n 1, 1) := by decide +kernel
theorem dX0_init_101 : decode cX0_init 101 = .ok (.iload_n 1, 1) := by decide +kernel
theorem dX0_init_102 : decode cX0_init 102 = .ok (.iconst 3, 1) := by decide +kernel
theorem dX0_init_103 : decode cX0_init 103 = .ok (.if_icmp .ge 19, 3) := by decide +kernel
theorem dX0_init_106 : decode cX0_init 106 = .ok (.aload_n 0, 1) := by decide +kernel
theorem dX0_init_107 : decode cX0_init 107 = .ok (.getfield 17, 3) := by decide +kernel
theorem dX0_init_110 : decode cX0_init 110 = .ok (.iconst 0, 1) := by decide +kernel
theorem dX0_init_111 : decode cX0_init 111 = .ok (.aaload, 1) := by decide +kernel
theorem dX0_init_112 : decode cX0_init 112 = .ok (.iload_n 1, 1) := by decide +kernel
theorem dX0_init_113 : decode cX0_init 113 = .ok (.bipush 100, 2) := by decide +kernel
theorem dX0_init_115 : decode cX0_init 115 = .ok (.iastore, 1) := by decide +kernel
theorem dX0_init_116 : decode cX0_init 116 = .ok (.iinc 1 1, 3) := by decide +kernel
theorem dX0_init_119 : decode cX0_init 119 = .ok (.goto (-18), 3) := by decide +kernel
theorem dX0_init_122 : decode cX0_init 122 = .ok (.iconst 0, 1) := by decide +kernel
theorem dX0_init_123 : decode cX0_init 123 = .ok (.istore_n 1, 1) := by decide +kernel
theorem dX0_init_124 : decode cX0_init 124 = .ok (.iload_n 1, 1) := by decide +kernel
theorem dX0_init_125 : decode cX0_init 125 = .ok (.bipush 6, 2) := by decide +kernel
theorem dX0_init_127 : decode cX0_init 127 = .ok (.if_icmp .ge 22, 3) := by decide +kernel
theorem dX0_init_130 : decode cX0_init 130 = .ok (.aload_n 0, 1) := by decide +kernel
theorem dX0_init_131 : decode cX0_init 131 = .ok (.getfield 35, 3) := by decide +kernel
theorem dX0_init_134 : decode cX0_init 134 = .ok (.iload_n 1, 1) := by decide +kernel
theorem dX0_init_135 : decode cX0_init 135 = .ok (.new 33, 3) := by decide +kernel
theorem dX0_init_138 : decode cX0_init 138 = .ok (.dup, 1) := by decide +kernel
theorem dX0_init_139 : decode cX0_init 139 = .ok (.invokespecial 42, 3) := by decide +kernel
theorem dX0_init_142 : decode cX0_init 142 = .ok (.aastore, 1) := by decide +kernel
theorem dX0_init_143 : decode cX0_init 143 = .ok (.iinc 1 1, 3) := by decide +kernel
theorem dX0_init_146 : decode cX0_init 146 = .ok (.goto (-22), 3) := by decide +kernel
theorem dX0_init_149 : decode cX0_init 149 = .ok (.aload_n 0, 1) := by decide +kernel
theorem dX0_init_150 : decode cX0_init 150 = .ok (.getfield 39, 3) := by decide +kernel
theorem dX0_init_153 : decode cX0_init 153 = .ok (.iconst 0, 1) := by decide +kernel
theorem dX0_init_154 : decode cX0_init 154 = .ok (.iconst 0, 1) := by decide +kernel
theorem dX0_init_155 : decode cX0_init 155 = .ok (.iastore, 1) := by decide +kernel
theorem dX0_init_156 : decode cX0_init 156 = .ok (.aload_n 0, 1) := by decide +kernel
theorem dX0_init_157 : decode cX0_init 157 = .ok (.iconst 1, 1) := by decide +kernel
theorem dX0_init_158 : decode cX0_init 158 = .ok (.putfield 43, 3) := by decide +kernel
theorem dX0_init_161 : decode cX0_init 161 = .ok (.return_, 1) := by decide +kernel
set_option maxRecDepth 20000 in
theorem ggX0_become_X4_become : GoodIn wsX0_become wsX4_become := goodIn_r _ [20, 21, 22, 4, 5, 6, 23, 24, 25, 26, 27, 39, 40, 41, 42, 43, 44] (by decide +kernel) (by decide +kernel)
set_option maxRecDepth 20000 in
theorem gX0_become_X4_become : GoodIn wsX0_become (wsV RX0 59 RX4 yX4_become wsX4_become) := goodIn_app (goodIn_of _ (by decide +kernel)) ggX0_become_X4_become
theorem dX0_become_0 : decode cX0_become 0 = .ok (.aload_n 0, 1) := by decide +kernel
theorem dX0_become_1 : decode cX0_become 1 = .ok (.aload_n 1, 1) := by decide +kernel
theorem dX0_become_2 : decode cX0_become 2 = .ok (.getfield 47, 3) := by decide +kernel
theorem dX0_become_5 : decode cX0_become 5 = .ok (.putfield 47, 3) := by decide +kernel
theorem dX0_become_8 : decode cX0_become 8 = .ok (.aload_n 1, 1) := by decide +kernel
theorem dX0_become_9 : decode cX0_become 9 = .ok (.getfield 9, 3) := by decide +kernel
theorem dX0_become_12 : decode cX0_become 12 = .ok (.iconst 0, 1) := by decide +kernel
theorem dX0_become_13 : decode cX0_become 13 = .ok (.aload_n 0, 1) := by decide +kernel
theorem dX0_become_14 : decode cX0_become 14 = .ok (.getfield 9, 3) := by decide +kernel
theorem dX0_become_17 : decode cX0_become 17 = .ok (.iconst 0, 1) := by decide +kernel
theorem dX0_become_18 : decode cX0_become 18 = .ok (.iconst 5, 1) := by decide +kernel
theorem dX0_become_19 : decode cX0_become 19 = .ok (.invokestatic 50, 3) := by decide +kernel
theorem dX0_become_22 : decode cX0_become 22 = .ok (.iconst 0, 1) := by decide +kernel
theorem dX0_become_23 : decode cX0_become 23 = .ok (.istore_n 2, 1) := by decide +kernel
theorem dX0_become_24 : decode cX0_become 24 = .ok (.iload_n 2, 1) := by decide +kernel
theorem dX0_become_25 : decode cX0_become 25 = .ok (.iconst 4, 1) := by decide +kernel
theorem dX0_become_26 : decode cX0_become 26 = .ok (.if_icmp .ge 27, 3) := by decide +kernel
theorem dX0_become_29 : decode cX0_become 29 = .ok (.aload_n 1, 1) := by decide +kernel
theorem dX0_become_30 : decode cX0_become 30 = .ok (.getfield 17, 3) := by decide +kernel
theorem dX0_become_33 : decode cX0_become 33 = .ok (.iload_n 2, 1) := by decide +kernel
theorem dX0_become_34 : decode cX0_become 34 = .ok (.aaload, 1) := by decide +kernel
theorem dX0_become_35 : decode cX0_become 35 = .ok (.iconst 0, 1) := by decide +kernel
theorem dX0_become_36 : decode cX0_become 36 = .ok (.aload_n 0, 1) := by decide +kernel
theorem dX0_become_37 : decode cX0_become 37 = .ok (.getfield 17, 3) := by decide +kernel
theorem dX0_become_40 : decode cX0_become 40 = .ok (.iload_n 2, 1) := by decide +kernel
theorem dX0_become_41 : decode cX0_become 41 = .ok (.aaload, 1) := by decide +kernel
theorem dX0_become_42 : decode cX0_become 42 = .ok (.iconst 0, 1) := by decide +kernel
theorem dX0_become_43 : decode cX0_become 43 = .ok (.iconst 3, 1) := by decide +kernel
theorem dX0_become_44 : decode cX0_become 44 = .ok (.invokestatic 50, 3) := by decide +kernel
theorem dX0_become_47 : decode cX0_become 47 = .ok (.iinc 2 1, 3) := by decide +kernel
theorem dX0_become_50 : decode cX0_become 50 = .ok (.goto (-26), 3) := by decide +kernel
theorem dX0_become_53 : decode cX0_become 53 = .ok (.aload_n 1, 1) := by decide +kernel
theorem dX0_become_54 : decode cX0_become 54 = .ok (.getfield 20, 3) := by decide +kernel
theorem dX0_become_57 : decode cX0_become 57 = .ok (.iconst 0, 1) := by decide +kernel
theorem dX0_become_58 : decode cX0_become 58 = .ok (.aload_n 0, 1) := by decide +kernel
theorem dX0_become_59 : decode cX0_become 59 = .ok (.getfield 20, 3) := by decide +kernel
theorem dX0_become_62 : decode cX0_become 62 = .ok (.iconst 0, 1) := by decide +kernel
theorem dX0_become_63 : decode cX0_become 63 = .ok (.iconst 3, 1) := by decide +kernel
theorem dX0_become_64 : decode cX0_become 64 = .ok (.invokestatic 50, 3) := by decide +kernel
theorem dX0_become_67 : decode cX0_become 67 = .ok (.aload_n 1, 1) := by decide +kernel
theorem dX0_become_68 : decode cX0_become 68 = .ok (.getfield 24, 3) := by decide +kernel
theorem dX0_become_71 : decode cX0_become 71 = .ok (.iconst 0, 1) := by decide +kernel
theorem dX0_become_72 : decode cX0_become 72 = .ok (.aload_n 0, 1) := by decide +kernel
theorem dX0_become_73 : decode cX0_become 73 = .ok (.getfield 24, 3) := by decide +kernel
theorem dX0_become_76 : decode cX0_become 76 = .ok (.iconst 0, 1) := by decide +kernel
theorem dX0_become_77 : decode cX0_become 77 = .ok (.iconst 3, 1) := by decide +kernel
theorem dX0_become_78 : decode cX0_become 78 = .ok (.invokestatic 50, 3) := by decide +kernel
theorem dX0_become_81 : decode cX0_become 81 = .ok (.aload_n 1, 1) := by decide +kernel
theorem dX0_become_82 : decode cX0_become 82 = .ok (.getfield 27, 3) := by decide +kernel
theorem dX0_become_85 : decode cX0_become 85 = .ok (.iconst 0, 1) := by decide +kernel
theorem dX0_become_86 : decode cX0_become 86 = .ok (.aload_n 0, 1) := by decide +kernel
theorem dX0_become_87 : decode cX0_become 87 = .ok (.getfield 27, 3) := by decide +kernel
theorem dX0_become_90 : decode cX0_become 90 = .ok (.iconst 0, 1) := by decide +kernel
theorem dX0_become_91 : decode cX0_become 91 = .ok (.iconst 3, 1) := by decide +kernel
theorem dX0_become_92 : decode cX0_become 92 = .ok (.invokestatic 50, 3) := by decide +kernel
theorem dX0_become_95 : decode cX0_become 95 = .ok (.aload_n 1, 1) := by decide +kernel
theorem dX0_become_96 : decode cX0_become 96 = .ok (.getfield 30, 3) := by decide +kernel
theorem dX0_become_99 : decode cX0_become 99 = .ok (.iconst 0, 1) := by decide +kernel
theorem dX0_become_100 : decode cX0_become 100 = .ok (.aload_n 0, 1) := by decide +kernel
theorem dX0_become_101 : decode cX0_become 101 = .ok (.getfield 30, 3) := by decide +kernel
theorem dX0_become_104 : decode cX0_become 104 = .ok (.iconst 0, 1) := by decide +kernel
theorem dX0_become_105 : decode cX0_become 105 = .ok (.iconst 3, 1) := by decide +kernel
theorem dX0_become_106 : decode cX0_become 106 = .ok (.invokestatic 50, 3) := by decide +kernel
theorem dX0_become_109 : decode cX0_become 109 = .ok (.aload_n 0, 1) := by decide +kernel
theorem dX0_become_110 : decode cX0_become 110 = .ok (.aload_n 1, 1) := by decide +kernel
theorem dX0_become_111 : decode cX0_become 111 = .ok (.getfield 56, 3) := by decide +kernel
theorem dX0_become_114 : decode cX0_become 114 = .ok (.putfield 56, 3) := by decide +kernel
theorem dX0_become_117 : decode cX0_become 117 = .ok (.iconst 0, 1) := by decide +kernel
theorem dX0_become_118 : decode cX0_become 118 = .ok (.istore_n 2, 1) := by decide +kernel
theorem dX0_become_119 : decode cX0_become 119 = .ok (.iload_n 2, 1) := by decide +kernel
theorem dX0_become_120 : decode cX0_become 120 = .ok (.bipush 6, 2) := by decide +kernel
theorem dX0_become_122 : decode cX0_become 122 = .ok (.if_icmp .ge 24, 3) := by decide +kernel
theorem dX0_become_125 : decode cX0_become 125 = .ok (.aload_n 0, 1) := by decide +kernel
theorem dX0_become_126 : decode cX0_become 126 = .ok (.getfield 35, 3) := by decide +kernel
theorem dX0_become_129 : decode cX0_become 129 = .ok (.iload_n 2, 1) := by decide +kernel
theorem dX0_become_130 : decode cX0_become 130 = .ok (.aaload, 1) := by decide +kernel
theorem dX0_become_131 : decode cX0_become 131 = .ok (.aload_n 1, 1) := by decide +kernel
theorem dX0_become_132 : decode cX0_become 132 = .ok (.getfield 35, 3) := by decide +kernel
theorem dX0_become_135 : decode cX0_become 135 = .ok (.iload_n 2, 1) := by decide +kernel
theorem dX0_become_136 : decode cX0_become 136 = .ok (.aaload, 1) := by decide +kernel
theorem dX0_become_137 : decode cX0_become 137 = .ok (.invokevirtual 59, 3) := by decide +kernel
theorem dX0_become_140 : decode cX0_become 140 = .ok (.iinc 2 1, 3) := by decide +kernel
theorem dX0_become_143 : decode cX0_become 143 = .ok (.goto (-24), 3) := by decide +kernel
theorem dX0_become_146 : decode cX0_become 146 = .ok (.aload_n 1, 1) := by decide +kernel
theorem dX0_become_147 : decode cX0_become 147 = .ok (.getfield 39, 3) := by decide +kernel
theorem dX0_become_150 : decode cX0_become 150 = .ok (.iconst 0, 1) := by decide +kernel
theorem dX0_become_151 : decode cX0_become 151 = .ok (.aload_n 0, 1) := by decide +kernel
theorem dX0_become_152 : decode cX0_become 152 = .ok (.getfield 39, 3) := by decide +kernel
theorem dX0_become_155 : decode cX0_become 155 = .ok (.iconst 0, 1) := by decide +kernel
theorem dX0_become_156 : decode cX0_become 156 = .ok (.iconst 3, 1) := by decide +kernel
theorem dX0_become_157 : decode cX0_become 157 = .ok (.invokestatic 50, 3) := by decide +kernel
theorem dX0_become_160 : decode cX0_become 160 = .ok (.aload_n 0, 1) := by decide +kernel
theorem dX0_become_161 : decode cX0_become 161 = .ok (.aload_n 1, 1) := by decide +kernel
theorem dX0_become_162 : decode cX0_become 162 = .ok (.getfield 43, 3) := by decide +kernel
theorem dX0_become_165 : decode cX0_become 165 = .ok (.putfield 43, 3) := by decide +kernel
theorem dX0_become_168 : decode cX0_become 168 = .ok (.return_, 1) := by decide +kernel
set_option maxRecDepth 20000 in
theorem ggX0_number_X0_rate : GoodIn wsX0_number wsX0_rate := goodIn_r _ [11, 2, 5, 12, 13, 14, 15, 16, 17, 18, 27, 28, 29, 30, 31, 32, 33, 34, 35, 36, 37] (by decide +kernel) (by decide +kernel)
set_option maxRecDepth 20000 in
theorem gX0_number_X0_rate : GoodIn wsX0_number (wsV RX0 63 RX0 yX0_rate wsX0_rate) := goodIn_app (goodIn_of _ (by decide +kernel)) ggX0_number_X0_rate
set_option maxRecDepth 20000 in
theorem ggX0_number_X0_wheelMomentum : GoodIn wsX0_number wsX0_wheelMomentum := goodIn_r _ [22, 23, 24, 25, 26, 27, 28, 29, 30, 31, 32, 33, 34, 35, 36, 37, 38, 39, 40, 41, 42, 43] (by decide +kernel) (by decide +kernel)
set_option maxRecDepth 20000 in
theorem gX0_number_X0_wheelMomentum : GoodIn wsX0_number (wsV RX0 67 RX0 yX0_wheelMomentum wsX0_wheelMomentum) := goodIn_app (goodIn_of _ (by decide +kernel)) ggX0_number_X0_wheelMomentum
theorem dX0_number_0 : decode cX0_number 0 = .ok (.iload_n 2, 1) := by decide +kernel
theorem dX0_number_1 : decode cX0_number 1 = .ok (.tableswitch 102 0 9 #[55, 62, 69, 75, 88, 102, 102, 102, 102, 95], 55) := by decide +kernel
theorem dX0_number_56 : decode cX0_number 56 = .ok (.aload_n 0, 1) := by decide +kernel
theorem dX0_number_57 : decode cX0_number 57 = .ok (.getfield 20, 3) := by decide +kernel
theorem dX0_number_60 : decode cX0_number 60 = .ok (.iload_n 1, 1) := by decide +kernel
theorem dX0_number_61 : decode cX0_number 61 = .ok (.laload, 1) := by decide +kernel
theorem dX0_number_62 : decode cX0_number 62 = .ok (.lreturn, 1) := by decide +kernel
theorem dX0_number_63 : decode cX0_number 63 = .ok (.aload_n 0, 1) := by decide +kernel
theorem dX0_number_64 : decode cX0_number 64 = .ok (.getfield 24, 3) := by decide +kernel
theorem dX0_number_67 : decode cX0_number 67 = .ok (.iload_n 1, 1) := by decide +kernel
theorem dX0_number_68 : decode cX0_number 68 = .ok (.laload, 1) := by decide +kernel
theorem dX0_number_69 : decode cX0_number 69 = .ok (.lreturn, 1) := by decide +kernel
theorem dX0_number_70 : decode cX0_number 70 = .ok (.aload_n 0, 1) := by decide +kernel
theorem dX0_number_71 : decode cX0_number 71 = .ok (.iload_n 1, 1) := by decide +kernel
theorem dX0_number_72 : decode cX0_number 72 = .ok (.invokevirtual 63, 3) := by decide +kernel
theorem dX0_number_75 : decode cX0_number 75 = .ok (.lreturn, 1) := by decide +kernel
theorem dX0_number_76 : decode cX0_number 76 = .ok (.aload_n 0, 1) := by decide +kernel
theorem dX0_number_77 : decode cX0_number 77 = .ok (.getfield 24, 3) := by decide +kernel
theorem dX0_number_80 : decode cX0_number 80 = .ok (.iload_n 1, 1) := by decide +kernel
theorem dX0_number_81 : decode cX0_number 81 = .ok (.laload, 1) := by decide +kernel
theorem dX0_number_82 : decode cX0_number 82 = .ok (.aload_n 0, 1) := by decide +kernel
theorem dX0_number_83 : decode cX0_number 83 = .ok (.iload_n 1, 1) := by decide +kernel
theorem dX0_number_84 : decode cX0_number 84 = .ok (.invokevirtual 67, 3) := by decide +kernel
theorem dX0_number_87 : decode cX0_number 87 = .ok (.ladd, 1) := by decide +kernel
theorem dX0_number_88 : decode cX0_number 88 = .ok (.lreturn, 1) := by decide +kernel
theorem dX0_number_89 : decode cX0_number 89 = .ok (.aload_n 0, 1) := by decide +kernel
theorem dX0_number_90 : decode cX0_number 90 = .ok (.getfield 27, 3) := by decide +kernel
theorem dX0_number_93 : decode cX0_number 93 = .ok (.iload_n 1, 1) := by decide +kernel
theorem dX0_number_94 : decode cX0_number 94 = .ok (.laload, 1) := by decide +kernel
theorem dX0_number_95 : decode cX0_number 95 = .ok (.lreturn, 1) := by decide +kernel
theorem dX0_number_96 : decode cX0_number 96 = .ok (.aload_n 0, 1) := by decide +kernel
theorem dX0_number_97 : decode cX0_number 97 = .ok (.getfield 30, 3) := by decide +kernel
theorem dX0_number_100 : decode cX0_number 100 = .ok (.iload_n 1, 1) := by decide +kernel
theorem dX0_number_101 : decode cX0_number 101 = .ok (.laload, 1) := by decide +kernel
theorem dX0_number_102 : decode cX0_number 102 = .ok (.lreturn, 1) := by decide +kernel
theorem dX0_number_103 : decode cX0_number 103 = .ok (.iload_n 2, 1) := by decide +kernel
theorem dX0_number_104 : decode cX0_number 104 = .ok (.iconst 5, 1) := by decide +kernel
theorem dX0_number_105 : decode cX0_number 105 = .ok (.if_icmp .lt 23, 3) := by decide +kernel
theorem dX0_number_108 : decode cX0_number 108 = .ok (.iload_n 2, 1) := by decide +kernel
theorem dX0_number_109 : decode cX0_number 109 = .ok (.bipush 9, 2) := by decide +kernel
theorem dX0_number_111 : decode cX0_number 111 = .ok (.if_icmp .ge 17, 3) := by decide +kernel
theorem dX0_number_114 : decode cX0_number 114 = .ok (.aload_n 0, 1) := by decide +kernel
theorem dX0_number_115 : decode cX0_number 115 = .ok (.getfield 17, 3) := by decide +kernel
theorem dX0_number_118 : decode cX0_number 118 = .ok (.iload_n 2, 1) := by decide +kernel
theorem dX0_number_119 : decode cX0_number 119 = .ok (.iconst 5, 1) := by decide +kernel
theorem dX0_number_120 : decode cX0_number 120 = .ok (.isub, 1) := by decide +kernel
theorem dX0_number_121 : decode cX0_number 121 = .ok (.aaload, 1) := by decide +kernel
theorem dX0_number_122 : decode cX0_number 122 = .ok (.iload_n 1, 1) := by decide +kernel
theorem dX0_number_123 : decode cX0_number 123 = .ok (.iaload, 1) := by decide +kernel
theorem dX0_number_124 : decode cX0_number 124 = .ok (.i2l, 1) := by decide +kernel
theorem dX0_number_125 : decode cX0_number 125 = .ok (.goto 6, 3) := by decide +kernel
theorem dX0_number_128 : decode cX0_number 128 = .ok (.ldc2_w 70, 3) := by decide +kernel
theorem dX0_number_131 : decode cX0_number 131 = .ok (.lreturn, 1) := by decide +kernel
set_option maxRecDepth 20000 in
theorem ggX0_rate_X5_quotient : GoodIn wsX0_rate wsX5_quotient := goodIn_r _ [5, 6, 7, 8, 9] (by decide +kernel) (by decide +kernel)
set_option maxRecDepth 20000 in
theorem gX0_rate_X5_quotient_n72 : GoodIn wsX0_rate (wsX5_quotient) := ggX0_rate_X5_quotient
theorem dX0_rate_0 : decode cX0_rate 0 = .ok (.aload_n 0, 1) := by decide +kernel
theorem dX0_rate_1 : decode cX0_rate 1 = .ok (.getfield 24, 3) := by decide +kernel
theorem dX0_rate_4 : decode cX0_rate 4 = .ok (.iload_n 1, 1) := by decide +kernel
theorem dX0_rate_5 : decode cX0_rate 5 = .ok (.laload, 1) := by decide +kernel
theorem dX0_rate_6 : decode cX0_rate 6 = .ok (.aload_n 0, 1) := by decide +kernel
theorem dX0_rate_7 : decode cX0_rate 7 = .ok (.getfield 17, 3) := by decide +kernel
theorem dX0_rate_10 : decode cX0_rate 10 = .ok (.iconst 0, 1) := by decide +kernel
theorem dX0_rate_11 : decode cX0_rate 11 = .ok (.aaload, 1) := by decide +kernel
theorem dX0_rate_12 : decode cX0_rate 12 = .ok (.iload_n 1, 1) := by decide +kernel
theorem dX0_rate_13 : decode cX0_rate 13 = .ok (.iaload, 1) := by decide +kernel
theorem dX0_rate_14 : decode cX0_rate 14 = .ok (.i2l, 1) := by decide +kernel
theorem dX0_rate_15 : decode cX0_rate 15 = .ok (.invokestatic 72, 3) := by decide +kernel
theorem dX0_rate_18 : decode cX0_rate 18 = .ok (.lreturn, 1) := by decide +kernel
theorem dX0_wheelMomentum_0 : decode cX0_wheelMomentum 0 = .ok (.lconst 0, 1) := by decide +kernel
theorem dX0_wheelMomentum_1 : decode cX0_wheelMomentum 1 = .ok (.lstore_n 2, 1) := by decide +kernel
theorem dX0_wheelMomentum_2 : decode cX0_wheelMomentum 2 = .ok (.iconst 0, 1) := by decide +kernel
theorem dX0_wheelMomentum_3 : decode cX0_wheelMomentum 3 = .ok (.istore 4, 2) := by decide +kernel
theorem dX0_wheelMomentum_5 : decode cX0_wheelMomentum 5 = .ok (.iload 4, 2) := by decide +kernel
theorem dX0_wheelMomentum_7 : decode cX0_wheelMomentum 7 = .ok (.aload_n 0, 1) := by decide +kernel
theorem dX0_wheelMomentum_8 : decode cX0_wheelMomentum 8 = .ok (.getfield 56, 3) := by decide +kernel
theorem dX0_wheelMomentum_11 : decode cX0_wheelMomentum 11 = .ok (.if_icmp .ge 37, 3) := by decide +kernel
theorem dX0_wheelMomentum_14 : decode cX0_wheelMomentum 14 = .ok (.lload_n 2, 1) := by decide +kernel
theorem dX0_wheelMomentum_15 : decode cX0_wheelMomentum 15 = .ok (.aload_n 0, 1) := by decide +kernel
theorem dX0_wheelMomentum_16 : decode cX0_wheelMomentum 16 = .ok (.getfield 35, 3) := by decide +kernel
theorem dX0_wheelMomentum_19 : decode cX0_wheelMomentum 19 = .ok (.iload 4, 2) := by decide +kernel
theorem dX0_wheelMomentum_21 : decode cX0_wheelMomentum 21 = .ok (.aaload, 1) := by decide +kernel
theorem dX0_wheelMomentum_22 : decode cX0_wheelMomentum 22 = .ok (.getfield 76, 3) := by decide +kernel
theorem dX0_wheelMomentum_25 : decode cX0_wheelMomentum 25 = .ok (.iload_n 1, 1) := by decide +kernel
theorem dX0_wheelMomentum_26 : decode cX0_wheelMomentum 26 = .ok (.iaload, 1) := by decide +kernel
theorem dX0_wheelMomentum_27 : decode cX0_wheelMomentum 27 = .ok (.i2l, 1) := by decide +kernel
theorem dX0_wheelMomentum_28 : decode cX0_wheelMomentum 28 = .ok (.aload_n 0, 1) := by decide +kernel
theorem dX0_wheelMomentum_29 : decode cX0_wheelMomentum 29 = .ok (.getfield 35, 3) := by decide +kernel
theorem dX0_wheelMomentum_32 : decode cX0_wheelMomentum 32 = .ok (.iload 4, 2) := by decide +kernel
theorem dX0_wheelMomentum_34 : decode cX0_wheelMomentum 34 = .ok (.aaload, 1) := by decide +kernel
theorem dX0_wheelMomentum_35 : decode cX0_wheelMomentum 35 = .ok (.getfield 79, 3) := by decide +kernel
theorem dX0_wheelMomentum_38 : decode cX0_wheelMomentum 38 = .ok (.i2l, 1) := by decide +kernel
theorem dX0_wheelMomentum_39 : decode cX0_wheelMomentum 39 = .ok (.lmul, 1) := by decide +kernel
theorem dX0_wheelMomentum_40 : decode cX0_wheelMomentum 40 = .ok (.ladd, 1) := by decide +kernel
theorem dX0_wheelMomentum_41 : decode cX0_wheelMomentum 41 = .ok (.lstore_n 2, 1) := by decide +kernel
theorem dX0_wheelMomentum_42 : decode cX0_wheelMomentum 42 = .ok (.iinc 4 1, 3) := by decide +kernel
theorem dX0_wheelMomentum_45 : decode cX0_wheelMomentum 45 = .ok (.goto (-40), 3) := by decide +kernel
theorem dX0_wheelMomentum_48 : decode cX0_wheelMomentum 48 = .ok (.lload_n 2, 1) := by decide +kernel
theorem dX0_wheelMomentum_49 : decode cX0_wheelMomentum 49 = .ok (.lreturn, 1) := by decide +kernel
theorem dX0_aside_0 : decode cX0_aside 0 = .ok (.aload_n 0, 1) := by decide +kernel
theorem dX0_aside_1 : decode cX0_aside 1 = .ok (.getfield 17, 3) := by decide +kernel
theorem dX0_aside_4 : decode cX0_aside 4 = .ok (.iconst 1, 1) := by decide +kernel
theorem dX0_aside_5 : decode cX0_aside 5 = .ok (.aaload, 1) := by decide +kernel
theorem dX0_aside_6 : decode cX0_aside 6 = .ok (.iload_n 1, 1) := by decide +kernel
theorem dX0_aside_7 : decode cX0_aside 7 = .ok (.iaload, 1) := by decide +kernel
theorem dX0_aside_8 : decode cX0_aside 8 = .ok (.i2l, 1) := by decide +kernel
theorem dX0_aside_9 : decode cX0_aside 9 = .ok (.aload_n 0, 1) := by decide +kernel
theorem dX0_aside_10 : decode cX0_aside 10 = .ok (.getfield 20, 3) := by decide +kernel
theorem dX0_aside_13 : decode cX0_aside 13 = .ok (.iload_n 1, 1) := by decide +kernel
theorem dX0_aside_14 : decode cX0_aside 14 = .ok (.laload, 1) := by decide +kernel
theorem dX0_aside_15 : decode cX0_aside 15 = .ok (.lsub, 1) := by decide +kernel
theorem dX0_aside_16 : decode cX0_aside 16 = .ok (.invokestatic 81, 3) := by decide +kernel
theorem dX0_aside_19 : decode cX0_aside 19 = .ok (.lreturn, 1) := by decide +kernel
set_option maxRecDepth 20000 in
theorem ggX0_offTarget_X0_aside : GoodIn wsX0_offTarget wsX0_aside := goodIn_r _ [5, 6, 7, 8, 9, 10, 11, 12, 13, 14, 15, 16, 17, 18, 19, 20, 21, 22] (by decide +kernel) (by decide +kernel)
set_option maxRecDepth 20000 in
theorem gX0_offTarget_X0_aside : GoodIn wsX0_offTarget (wsV RX0 87 RX0 yX0_aside wsX0_aside) := goodIn_app (goodIn_of _ (by decide +kernel)) ggX0_offTarget_X0_aside
theorem dX0_offTarget_0 : decode cX0_offTarget 0 = .ok (.lconst 0, 1) := by decide +kernel
theorem dX0_offTarget_1 : decode cX0_offTarget 1 = .ok (.lstore_n 1, 1) := by decide +kernel
theorem dX0_offTarget_2 : decode cX0_offTarget 2 = .ok (.iconst 0, 1) := by decide +kernel
theorem dX0_offTarget_3 : decode cX0_offTarget 3 = .ok (.istore_n 3, 1) := by decide +kernel
theorem dX0_offTarget_4 : decode cX0_offTarget 4 = .ok (.iload_n 3, 1) := by decide +kernel
theorem dX0_offTarget_5 : decode cX0_offTarget 5 = .ok (.iconst 3, 1) := by decide +kernel
theorem dX0_offTarget_6 : decode cX0_offTarget 6 = .ok (.if_icmp .ge 17, 3) := by decide +kernel
theorem dX0_offTarget_9 : decode cX0_offTarget 9 = .ok (.lload_n 1, 1) := by decide +kernel
theorem dX0_offTarget_10 : decode cX0_offTarget 10 = .ok (.aload_n 0, 1) := by decide +kernel
theorem dX0_offTarget_11 : decode cX0_offTarget 11 = .ok (.iload_n 3, 1) := by decide +kernel
theorem dX0_offTarget_12 : decode cX0_offTarget 12 = .ok (.invokevirtual 87, 3) := by decide +kernel
theorem dX0_offTarget_15 : decode cX0_offTarget 15 = .ok (.ladd, 1) := by decide +kernel
theorem dX0_offTarget_16 : decode cX0_offTarget 16 = .ok (.lstore_n 1, 1) := by decide +kernel
theorem dX0_offTarget_17 : decode cX0_offTarget 17 = .ok (.iinc 3 1, 3) := by decide +kernel
theorem dX0_offTarget_20 : decode cX0_offTarget 20 = .ok (.goto (-16), 3) := by decide +kernel
theorem dX0_offTarget_23 : decode cX0_offTarget 23 = .ok (.lload_n 1, 1) := by decide +kernel
theorem dX0_offTarget_24 : decode cX0_offTarget 24 = .ok (.lreturn, 1) := by decide +kernel
set_option maxRecDepth 20000 in
theorem ggX0_isOnTarget_X0_aside : GoodIn wsX0_isOnTarget wsX0_aside := goodIn_r _ [9, 10, 11, 1, 2, 3, 4, 24, 25, 26, 27, 28, 29, 30, 31, 32, 33, 34] (by decide +kernel) (by decide +kernel)
set_option maxRecDepth 20000 in
theorem gX0_isOnTarget_X0_aside : GoodIn wsX0_isOnTarget (wsV RX0 87 RX0 yX0_aside wsX0_aside) := goodIn_app (goodIn_of _ (by decide +kernel)) ggX0_isOnTarget_X0_aside
set_option maxRecDepth 20000 in
theorem ggX0_isOnTarget_X0_rate : GoodIn wsX0_isOnTarget wsX0_rate := goodIn_r _ [15, 16, 10, 17, 18, 19, 20, 21, 22, 23, 24, 25, 26, 27, 28, 29, 30, 31, 32, 33, 34] (by decide +kernel) (by decide +kernel)
set_option maxRecDepth 20000 in
theorem gX0_isOnTarget_X0_rate : GoodIn wsX0_isOnTarget (wsV RX0 63 RX0 yX0_rate wsX0_rate) := goodIn_app (goodIn_of _ (by decide +kernel)) ggX0_isOnTarget_X0_rate
theorem dX0_isOnTarget_0 : decode cX0_isOnTarget 0 = .ok (.iconst 0, 1) := by decide +kernel
theorem dX0_isOnTarget_1 : decode cX0_isOnTarget 1 = .ok (.istore_n 2, 1) := by decide +kernel
theorem dX0_isOnTarget_2 : decode cX0_isOnTarget 2 = .ok (.iload_n 2, 1) := by decide +kernel
theorem dX0_isOnTarget_3 : decode cX0_isOnTarget 3 = .ok (.iconst 3, 1) := by decide +kernel
theorem dX0_isOnTarget_4 : decode cX0_isOnTarget 4 = .ok (.if_icmp .ge 35, 3) := by decide +kernel
theorem dX0_isOnTarget_7 : decode cX0_isOnTarget 7 = .ok (.aload_n 0, 1) := by decide +kernel
theorem dX0_isOnTarget_8 : decode cX0_isOnTarget 8 = .ok (.iload_n 2, 1) := by decide +kernel
theorem dX0_isOnTarget_9 : decode cX0_isOnTarget 9 = .ok (.invokevirtual 87, 3) := by decide +kernel
theorem dX0_isOnTarget_12 : decode cX0_isOnTarget 12 = .ok (.iload_n 1, 1) := by decide +kernel
theorem dX0_isOnTarget_13 : decode cX0_isOnTarget 13 = .ok (.i2l, 1) := by decide +kernel
theorem dX0_isOnTarget_14 : decode cX0_isOnTarget 14 = .ok (.lcmp, 1) := by decide +kernel
theorem dX0_isOnTarget_15 : decode cX0_isOnTarget 15 = .ok (.ifCond .gt 16, 3) := by decide +kernel
theorem dX0_isOnTarget_18 : decode cX0_isOnTarget 18 = .ok (.aload_n 0, 1) := by decide +kernel
theorem dX0_isOnTarget_19 : decode cX0_isOnTarget 19 = .ok (.iload_n 2, 1) := by decide +kernel
theorem dX0_isOnTarget_20 : decode cX0_isOnTarget 20 = .ok (.invokevirtual 63, 3) := by decide +kernel
theorem dX0_isOnTarget_23 : decode cX0_isOnTarget 23 = .ok (.invokestatic 81, 3) := by decide +kernel
theorem dX0_isOnTarget_26 : decode cX0_isOnTarget 26 = .ok (.lconst 1, 1) := by decide +kernel
theorem dX0_isOnTarget_27 : decode cX0_isOnTarget 27 = .ok (.lcmp, 1) := by decide +kernel
theorem dX0_isOnTarget_28 : decode cX0_isOnTarget 28 = .ok (.ifCond .le 5, 3) := by decide +kernel
theorem dX0_isOnTarget_31 : decode cX0_isOnTarget 31 = .ok (.iconst 0, 1) := by decide +kernel
theorem dX0_isOnTarget_32 : decode cX0_isOnTarget 32 = .ok (.ireturn, 1) := by decide +kernel
theorem dX0_isOnTarget_33 : decode cX0_isOnTarget 33 = .ok (.iinc 2 1, 3) := by decide +kernel
theorem dX0_isOnTarget_36 : decode cX0_isOnTarget 36 = .ok (.goto (-34), 3) := by decide +kernel
theorem dX0_isOnTarget_39 : decode cX0_isOnTarget 39 = .ok (.iconst 1, 1) := by decide +kernel
theorem dX0_isOnTarget_40 : decode cX0_isOnTarget 40 = .ok (.ireturn, 1) := by decide +kernel
theorem dX0_isMet_0 : decode cX0_isMet 0 = .ok (.aload_n 0, 1) := by decide +kernel
theorem dX0_isMet_1 : decode cX0_isMet 1 = .ok (.getfield 39, 3) := by decide +kernel
theorem dX0_isMet_4 : decode cX0_isMet 4 = .ok (.iconst 0, 1) := by decide +kernel
theorem dX0_isMet_5 : decode cX0_isMet 5 = .ok (.iaload, 1) := by decide +kernel
theorem dX0_isMet_6 : decode cX0_isMet 6 = .ok (.ifCond .ne 7, 3) := by decide +kernel
theorem dX0_isMet_9 : decode cX0_isMet 9 = .ok (.iconst 1, 1) := by decide +kernel
theorem dX0_isMet_10 : decode cX0_isMet 10 = .ok (.goto 4, 3) := by decide +kernel
theorem dX0_isMet_13 : decode cX0_isMet 13 = .ok (.iconst 0, 1) := by decide +kernel
theorem dX0_isMet_14 : decode cX0_isMet 14 = .ok (.ireturn, 1) := by decide +kernel
set_option maxRecDepth 20000 in
theorem ggX0_findWish_X5_quotient : GoodIn wsX0_findWish wsX5_quotient := goodIn_r _ [8, 9, 10, 11, 12] (by decide +kernel) (by decide +kernel)
set_option maxRecDepth 20000 in
theorem gX0_findWish_X5_quotient_n72 : GoodIn wsX0_findWish (wsX5_quotient) := ggX0_findWish_X5_quotient
set_option maxRecDepth 20000 in
theorem ggX0_findWish_X5_limited : GoodIn wsX0_findWish wsX5_limited := goodIn_r _ [14] (by decide +kernel) (by decide +kernel)
set_option maxRecDepth 20000 in
theorem gX0_findWish_X5_limited_n92 : GoodIn wsX0_findWish (wsX5_limited) := ggX0_findWish_X5_limited
set_option maxRecDepth 20000 in
theorem ggX0_findWish_X0_rate : GoodIn wsX0_findWish wsX0_rate := goodIn_r _ [19, 20, 2, 6, 7, 8, 9, 10, 11, 12, 21, 22, 23, 24, 25, 26, 27, 28, 29, 30, 31] (by decide +kernel) (by decide +kernel)
set_option maxRecDepth 20000 in
theorem gX0_findWish_X0_rate : GoodIn wsX0_findWish (wsV RX0 63 RX0 yX0_rate wsX0_rate) := goodIn_app (goodIn_of _ (by decide +kernel)) ggX0_findWish_X0_rate
theorem dX0_findWish_0 : decode cX0_findWish 0 = .ok (.aload_n 0, 1) := by decide +kernel
theorem dX0_findWish_1 : decode cX0_findWish 1 = .ok (.getfield 9, 3) := by decide +kernel
theorem dX0_findWish_4 : decode cX0_findWish 4 = .ok (.iconst 2, 1) := by decide +kernel
theorem dX0_findWish_5 : decode cX0_findWish 5 = .ok (.iaload, 1) := by decide +kernel
theorem dX0_findWish_6 : decode cX0_findWish 6 = .ok (.i2l, 1) := by decide +kernel
theorem dX0_findWish_7 : decode cX0_findWish 7 = .ok (.lstore_n 1, 1) := by decide +kernel
theorem dX0_findWish_8 : decode cX0_findWish 8 = .ok (.aload_n 0, 1) := by decide +kernel
theorem dX0_findWish_9 : decode cX0_findWish 9 = .ok (.getfield 9, 3) := by decide +kernel
theorem dX0_findWish_12 : decode cX0_findWish 12 = .ok (.iconst 3, 1) := by decide +kernel
theorem dX0_findWish_13 : decode cX0_findWish 13 = .ok (.iaload, 1) := by decide +kernel
theorem dX0_findWish_14 : decode cX0_findWish 14 = .ok (.i2l, 1) := by decide +kernel
theorem dX0_findWish_15 : decode cX0_findWish 15 = .ok (.lstore_n 3, 1) := by decide +kernel
theorem dX0_findWish_16 : decode cX0_findWish 16 = .ok (.iconst 0, 1) := by decide +kernel
theorem dX0_findWish_17 : decode cX0_findWish 17 = .ok (.istore 5, 2) := by decide +kernel
theorem dX0_findWish_19 : decode cX0_findWish 19 = .ok (.iload 5, 2) := by decide +kernel
theorem dX0_findWish_21 : decode cX0_findWish 21 = .ok (.iconst 3, 1) := by decide +kernel
theorem dX0_findWish_22 : decode cX0_findWish 22 = .ok (.if_icmp .ge 87, 3) := by decide +kernel
theorem dX0_findWish_25 : decode cX0_findWish 25 = .ok (.aload_n 0, 1) := by decide +kernel
theorem dX0_findWish_26 : decode cX0_findWish 26 = .ok (.getfield 9, 3) := by decide +kernel
theorem dX0_findWish_29 : decode cX0_findWish 29 = .ok (.iconst 0, 1) := by decide +kernel
theorem dX0_findWish_30 : decode cX0_findWish 30 = .ok (.iaload, 1) := by decide +kernel
theorem dX0_findWish_31 : decode cX0_findWish 31 = .ok (.i2l, 1) := by decide +kernel
theorem dX0_findWish_32 : decode cX0_findWish 32 = .ok (.aload_n 0, 1) := by decide +kernel
theorem dX0_findWish_33 : decode cX0_findWish 33 = .ok (.getfield 17, 3) := by decide +kernel
theorem dX0_findWish_36 : decode cX0_findWish 36 = .ok (.iconst 1, 1) := by decide +kernel
theorem dX0_findWish_37 : decode cX0_findWish 37 = .ok (.aaload, 1) := by decide +kernel
theorem dX0_findWish_38 : decode cX0_findWish 38 = .ok (.iload 5, 2) := by decide +kernel
theorem dX0_findWish_40 : decode cX0_findWish 40 = .ok (.iaload, 1) := by decide +kernel
theorem dX0_findWish_41 : decode cX0_findWish 41 = .ok (.i2l, 1) := by decide +kernel
theorem dX0_findWish_42 : decode cX0_findWish 42 = .ok (.aload_n 0, 1) := by decide +kernel
theorem dX0_findWish_43 : decode cX0_findWish 43 = .ok (.getfield 20, 3) := by decide +kernel
theorem dX0_findWish_46 : decode cX0_findWish 46 = .ok (.iload 5, 2) := by decide +kernel
theorem dX0_findWish_48 : decode cX0_findWish 48 = .ok (.laload, 1) := by decide +kernel
theorem dX0_findWish_49 : decode cX0_findWish 49 = .ok (.lsub, 1) := by decide +kernel
theorem dX0_findWish_50 : decode cX0_findWish 50 = .ok (.lmul, 1) := by decide +kernel
theorem dX0_findWish_51 : decode cX0_findWish 51 = .ok (.lstore 6, 2) := by decide +kernel
theorem dX0_findWish_53 : decode cX0_findWish 53 = .ok (.lload 6, 2) := by decide +kernel
theorem dX0_findWish_55 : decode cX0_findWish 55 = .ok (.ldc2_w 90, 3) := by decide +kernel
theorem dX0_findWish_58 : decode cX0_findWish 58 = .ok (.invokestatic 72, 3) := by decide +kernel
theorem dX0_findWish_61 : decode cX0_findWish 61 = .ok (.lload_n 1, 1) := by decide +kernel
theorem dX0_findWish_62 : decode cX0_findWish 62 = .ok (.lneg, 1) := by decide +kernel
theorem dX0_findWish_63 : decode cX0_findWish 63 = .ok (.lload_n 1, 1) := by decide +kernel
theorem dX0_findWish_64 : decode cX0_findWish 64 = .ok (.invokestatic 92, 3) := by decide +kernel
theorem dX0_findWish_67 : decode cX0_findWish 67 = .ok (.lstore 8, 2) := by decide +kernel
theorem dX0_findWish_69 : decode cX0_findWish 69 = .ok (.aload_n 0, 1) := by decide +kernel
theorem dX0_findWish_70 : decode cX0_findWish 70 = .ok (.getfield 9, 3) := by decide +kernel
theorem dX0_findWish_73 : decode cX0_findWish 73 = .ok (.iconst 1, 1) := by decide +kernel
theorem dX0_findWish_74 : decode cX0_findWish 74 = .ok (.iaload, 1) := by decide +kernel
theorem dX0_findWish_75 : decode cX0_findWish 75 = .ok (.i2l, 1) := by decide +kernel
theorem dX0_findWish_76 : decode cX0_findWish 76 = .ok (.lload 8, 2) := by decide +kernel
theorem dX0_findWish_78 : decode cX0_findWish 78 = .ok (.aload_n 0, 1) := by decide +kernel
theorem dX0_findWish_79 : decode cX0_findWish 79 = .ok (.iload 5, 2) := by decide +kernel
theorem dX0_findWish_81 : decode cX0_findWish 81 = .ok (.invokevirtual 63, 3) := by decide +kernel
theorem dX0_findWish_84 : decode cX0_findWish 84 = .ok (.lsub, 1) := by decide +kernel
theorem dX0_findWish_85 : decode cX0_findWish 85 = .ok (.lmul, 1) := by decide +kernel
theorem dX0_findWish_86 : decode cX0_findWish 86 = .ok (.lstore 10, 2) := by decide +kernel
theorem dX0_findWish_88 : decode cX0_findWish 88 = .ok (.aload_n 0, 1) := by decide +kernel
theorem dX0_findWish_89 : decode cX0_findWish 89 = .ok (.getfield 30, 3) := by decide +kernel
theorem dX0_findWish_92 : decode cX0_findWish 92 = .ok (.iload 5, 2) := by decide +kernel
theorem dX0_findWish_94 : decode cX0_findWish 94 = .ok (.lload 10, 2) := by decide +kernel
theorem dX0_findWish_96 : decode cX0_findWish 96 = .ok (.lload_n 3, 1) := by decide +kernel
theorem dX0_findWish_97 : decode cX0_findWish 97 = .ok (.lneg, 1) := by decide +kernel
theorem dX0_findWish_98 : decode cX0_findWish 98 = .ok (.lload_n 3, 1) := by decide +kernel
theorem dX0_findWish_99 : decode cX0_findWish 99 = .ok (.invokestatic 92, 3) := by decide +kernel
theorem dX0_findWish_102 : decode cX0_findWish 102 = .ok (.lastore, 1) := by decide +kernel
theorem dX0_findWish_103 : decode cX0_findWish 103 = .ok (.iinc 5 1, 3) := by decide +kernel
theorem dX0_findWish_106 : decode cX0_findWish 106 = .ok (.goto (-87), 3) := by decide +kernel
theorem dX0_findWish_109 : decode cX0_findWish 109 = .ok (.return_, 1) := by decide +kernel
theorem dX0_pushFromOutside_0 : decode cX0_pushFromOutside 0 = .ok (.aload_n 0, 1) := by decide +kernel
theorem dX0_pushFromOutside_1 : decode cX0_pushFromOutside 1 = .ok (.getfield 24, 3) := by decide +kernel
theorem dX0_pushFromOutside_4 : decode cX0_pushFromOutside 4 = .ok (.iload_n 1, 1) := by decide +kernel
theorem dX0_pushFromOutside_5 : decode cX0_pushFromOutside 5 = .ok (.dup2, 1) := by decide +kernel
theorem dX0_pushFromOutside_6 : decode cX0_pushFromOutside 6 = .ok (.laload, 1) := by decide +kernel
theorem dX0_pushFromOutside_7 : decode cX0_pushFromOutside 7 = .ok (.lload_n 2, 1) := by decide +kernel
theorem dX0_pushFromOutside_8 : decode cX0_pushFromOutside 8 = .ok (.ladd, 1) := by decide +kernel
theorem dX0_pushFromOutside_9 : decode cX0_pushFromOutside 9 = .ok (.lastore, 1) := by decide +kernel
theorem dX0_pushFromOutside_10 : decode cX0_pushFromOutside 10 = .ok (.aload_n 0, 1) := by decide +kernel
theorem dX0_pushFromOutside_11 : decode cX0_pushFromOutside 11 = .ok (.getfield 27, 3) := by decide +kernel
theorem dX0_pushFromOutside_14 : decode cX0_pushFromOutside 14 = .ok (.iload_n 1, 1) := by decide +kernel
theorem dX0_pushFromOutside_15 : decode cX0_pushFromOutside 15 = .ok (.dup2, 1) := by decide +kernel
theorem dX0_pushFromOutside_16 : decode cX0_pushFromOutside 16 = .ok (.laload, 1) := by decide +kernel
theorem dX0_pushFromOutside_17 : decode cX0_pushFromOutside 17 = .ok (.lload_n 2, 1) := by decide +kernel
theorem dX0_pushFromOutside_18 : decode cX0_pushFromOutside 18 = .ok (.ladd, 1) := by decide +kernel
theorem dX0_pushFromOutside_19 : decode cX0_pushFromOutside 19 = .ok (.lastore, 1) := by decide +kernel
theorem dX0_pushFromOutside_20 : decode cX0_pushFromOutside 20 = .ok (.return_, 1) := by decide +kernel
set_option maxRecDepth 20000 in
theorem ggX0_disturb_X0_pushFromOutside : GoodIn wsX0_disturb wsX0_pushFromOutside := goodIn_r _ [6, 7, 8, 9, 10, 11, 12, 13, 14, 15, 16, 17, 18, 19] (by decide +kernel) (by decide +kernel)
set_option maxRecDepth 20000 in
theorem gX0_disturb_X0_pushFromOutside : GoodIn wsX0_disturb (wsV RX0 96 RX0 yX0_pushFromOutside wsX0_pushFromOutside) := goodIn_app (goodIn_of _ (by decide +kernel)) ggX0_disturb_X0_pushFromOutside
theorem dX0_disturb_0 : decode cX0_disturb 0 = .ok (.iconst 0, 1) := by decide +kernel
theorem dX0_disturb_1 : decode cX0_disturb 1 = .ok (.istore_n 1, 1) := by decide +kernel
theorem dX0_disturb_2 : decode cX0_disturb 2 = .ok (.iload_n 1, 1) := by decide +kernel
theorem dX0_disturb_3 : decode cX0_disturb 3 = .ok (.iconst 3, 1) := by decide +kernel
theorem dX0_disturb_4 : decode cX0_disturb 4 = .ok (.if_icmp .ge 23, 3) := by decide +kernel
theorem dX0_disturb_7 : decode cX0_disturb 7 = .ok (.aload_n 0, 1) := by decide +kernel
theorem dX0_disturb_8 : decode cX0_disturb 8 = .ok (.iload_n 1, 1) := by decide +kernel
theorem dX0_disturb_9 : decode cX0_disturb 9 = .ok (.aload_n 0, 1) := by decide +kernel
theorem dX0_disturb_10 : decode cX0_disturb 10 = .ok (.getfield 17, 3) := by decide +kernel
theorem dX0_disturb_13 : decode cX0_disturb 13 = .ok (.iconst 3, 1) := by decide +kernel
theorem dX0_disturb_14 : decode cX0_disturb 14 = .ok (.aaload, 1) := by decide +kernel
theorem dX0_disturb_15 : decode cX0_disturb 15 = .ok (.iload_n 1, 1) := by decide +kernel
theorem dX0_disturb_16 : decode cX0_disturb 16 = .ok (.iaload, 1) := by decide +kernel
theorem dX0_disturb_17 : decode cX0_disturb 17 = .ok (.i2l, 1) := by decide +kernel
theorem dX0_disturb_18 : decode cX0_disturb 18 = .ok (.invokevirtual 96, 3) := by decide +kernel
theorem dX0_disturb_21 : decode cX0_disturb 21 = .ok (.iinc 1 1, 3) := by decide +kernel
theorem dX0_disturb_24 : decode cX0_disturb 24 = .ok (.goto (-22), 3) := by decide +kernel
theorem dX0_disturb_27 : decode cX0_disturb 27 = .ok (.return_, 1) := by decide +kernel
set_option maxRecDepth 20000 in
theorem ggX0_turn_X0_rate : GoodIn wsX0_turn wsX0_rate := goodIn_r _ [6, 7, 8, 9, 10, 11, 12, 13, 14, 15, 16, 17, 18, 19, 20, 21, 22, 23, 24, 25, 26] (by decide +kernel) (by decide +kernel)
set_option maxRecDepth 20000 in
theorem gX0_turn_X0_rate : GoodIn wsX0_turn (wsV RX0 63 RX0 yX0_rate wsX0_rate) := goodIn_app (goodIn_of _ (by decide +kernel)) ggX0_turn_X0_rate
theorem dX0_turn_0 : decode cX0_turn 0 = .ok (.iconst 0, 1) := by decide +kernel
theorem dX0_turn_1 : decode cX0_turn 1 = .ok (.istore_n 1, 1) := by decide +kernel
theorem dX0_turn_2 : decode cX0_turn 2 = .ok (.iload_n 1, 1) := by decide +kernel
theorem dX0_turn_3 : decode cX0_turn 3 = .ok (.iconst 3, 1) := by decide +kernel
theorem dX0_turn_4 : decode cX0_turn 4 = .ok (.if_icmp .ge 23, 3) := by decide +kernel
theorem dX0_turn_7 : decode cX0_turn 7 = .ok (.aload_n 0, 1) := by decide +kernel
theorem dX0_turn_8 : decode cX0_turn 8 = .ok (.getfield 20, 3) := by decide +kernel
theorem dX0_turn_11 : decode cX0_turn 11 = .ok (.iload_n 1, 1) := by decide +kernel
theorem dX0_turn_12 : decode cX0_turn 12 = .ok (.dup2, 1) := by decide +kernel
theorem dX0_turn_13 : decode cX0_turn 13 = .ok (.laload, 1) := by decide +kernel
theorem dX0_turn_14 : decode cX0_turn 14 = .ok (.aload_n 0, 1) := by decide +kernel
theorem dX0_turn_15 : decode cX0_turn 15 = .ok (.iload_n 1, 1) := by decide +kernel
theorem dX0_turn_16 : decode cX0_turn 16 = .ok (.invokevirtual 63, 3) := by decide +kernel
theorem dX0_turn_19 : decode cX0_turn 19 = .ok (.ladd, 1) := by decide +kernel
theorem dX0_turn_20 : decode cX0_turn 20 = .ok (.lastore, 1) := by decide +kernel
theorem dX0_turn_21 : decode cX0_turn 21 = .ok (.iinc 1 1, 3) := by decide +kernel
theorem dX0_turn_24 : decode cX0_turn 24 = .ok (.goto (-22), 3) := by decide +kernel
theorem dX0_turn_27 : decode cX0_turn 27 = .ok (.return_, 1) := by decide +kernel
theorem dX0_tellMet_0 : decode cX0_tellMet 0 = .ok (.aload_n 0, 1) := by decide +kernel
theorem dX0_tellMet_1 : decode cX0_tellMet 1 = .ok (.getfield 39, 3) := by decide +kernel
theorem dX0_tellMet_4 : decode cX0_tellMet 4 = .ok (.iconst 0, 1) := by decide +kernel
theorem dX0_tellMet_5 : decode cX0_tellMet 5 = .ok (.iconst 0, 1) := by decide +kernel
theorem dX0_tellMet_6 : decode cX0_tellMet 6 = .ok (.iastore, 1) := by decide +kernel
theorem dX0_tellMet_7 : decode cX0_tellMet 7 = .ok (.aload_n 0, 1) := by decide +kernel
theorem dX0_tellMet_8 : decode cX0_tellMet 8 = .ok (.iconst 1, 1) := by decide +kernel
theorem dX0_tellMet_9 : decode cX0_tellMet 9 = .ok (.putfield 43, 3) := by decide +kernel
theorem dX0_tellMet_12 : decode cX0_tellMet 12 = .ok (.return_, 1) := by decide +kernel
theorem dX0_tellNoSpan_0 : decode cX0_tellNoSpan 0 = .ok (.aload_n 0, 1) := by decide +kernel
theorem dX0_tellNoSpan_1 : decode cX0_tellNoSpan 1 = .ok (.getfield 39, 3) := by decide +kernel
theorem dX0_tellNoSpan_4 : decode cX0_tellNoSpan 4 = .ok (.iconst 0, 1) := by decide +kernel
theorem dX0_tellNoSpan_5 : decode cX0_tellNoSpan 5 = .ok (.iconst 1, 1) := by decide +kernel
theorem dX0_tellNoSpan_6 : decode cX0_tellNoSpan 6 = .ok (.iastore, 1) := by decide +kernel
theorem dX0_tellNoSpan_7 : decode cX0_tellNoSpan 7 = .ok (.aload_n 0, 1) := by decide +kernel
theorem dX0_tellNoSpan_8 : decode cX0_tellNoSpan 8 = .ok (.iconst 1, 1) := by decide +kernel
theorem dX0_tellNoSpan_9 : decode cX0_tellNoSpan 9 = .ok (.putfield 43, 3) := by decide +kernel
theorem dX0_tellNoSpan_12 : decode cX0_tellNoSpan 12 = .ok (.iconst 0, 1) := by decide +kernel
theorem dX0_tellNoSpan_13 : decode cX0_tellNoSpan 13 = .ok (.istore_n 1, 1) := by decide +kernel
theorem dX0_tellNoSpan_14 : decode cX0_tellNoSpan 14 = .ok (.iload_n 1, 1) := by decide +kernel
theorem dX0_tellNoSpan_15 : decode cX0_tellNoSpan 15 = .ok (.aload_n 0, 1) := by decide +kernel
theorem dX0_tellNoSpan_16 : decode cX0_tellNoSpan 16 = .ok (.getfield 56, 3) := by decide +kernel
theorem dX0_tellNoSpan_19 : decode cX0_tellNoSpan 19 = .ok (.if_icmp .ge 44, 3) := by decide +kernel
theorem dX0_tellNoSpan_22 : decode cX0_tellNoSpan 22 = .ok (.aload_n 0, 1) := by decide +kernel
theorem dX0_tellNoSpan_23 : decode cX0_tellNoSpan 23 = .ok (.getfield 43, 3) := by decide +kernel
theorem dX0_tellNoSpan_26 : decode cX0_tellNoSpan 26 = .ok (.iconst 1, 1) := by decide +kernel
theorem dX0_tellNoSpan_27 : decode cX0_tellNoSpan 27 = .ok (.if_icmp .ne 36, 3) := by decide +kernel
theorem dX0_tellNoSpan_30 : decode cX0_tellNoSpan 30 = .ok (.aload_n 0, 1) := by decide +kernel
theorem dX0_tellNoSpan_31 : decode cX0_tellNoSpan 31 = .ok (.getfield 35, 3) := by decide +kernel
theorem dX0_tellNoSpan_34 : decode cX0_tellNoSpan 34 = .ok (.iload_n 1, 1) := by decide +kernel
theorem dX0_tellNoSpan_35 : decode cX0_tellNoSpan 35 = .ok (.aaload, 1) := by decide +kernel
theorem dX0_tellNoSpan_36 : decode cX0_tellNoSpan 36 = .ok (.getfield 100, 3) := by decide +kernel
theorem dX0_tellNoSpan_39 : decode cX0_tellNoSpan 39 = .ok (.ifCond .eq 18, 3) := by decide +kernel
theorem dX0_tellNoSpan_42 : decode cX0_tellNoSpan 42 = .ok (.aload_n 0, 1) := by decide +kernel
theorem dX0_tellNoSpan_43 : decode cX0_tellNoSpan 43 = .ok (.getfield 39, 3) := by decide +kernel
theorem dX0_tellNoSpan_46 : decode cX0_tellNoSpan 46 = .ok (.iconst 1, 1) := by decide +kernel
theorem dX0_tellNoSpan_47 : decode cX0_tellNoSpan 47 = .ok (.bipush 10, 2) := by decide +kernel
theorem dX0_tellNoSpan_49 : decode cX0_tellNoSpan 49 = .ok (.iload_n 1, 1) := by decide +kernel
theorem dX0_tellNoSpan_50 : decode cX0_tellNoSpan 50 = .ok (.iadd, 1) := by decide +kernel
theorem dX0_tellNoSpan_51 : decode cX0_tellNoSpan 51 = .ok (.iastore, 1) := by decide +kernel
theorem dX0_tellNoSpan_52 : decode cX0_tellNoSpan 52 = .ok (.aload_n 0, 1) := by decide +kernel
theorem dX0_tellNoSpan_53 : decode cX0_tellNoSpan 53 = .ok (.iconst 2, 1) := by decide +kernel
theorem dX0_tellNoSpan_54 : decode cX0_tellNoSpan 54 = .ok (.putfield 43, 3) := by decide +kernel
theorem dX0_tellNoSpan_57 : decode cX0_tellNoSpan 57 = .ok (.iinc 1 1, 3) := by decide +kernel
theorem dX0_tellNoSpan_60 : decode cX0_tellNoSpan 60 = .ok (.goto (-46), 3) := by decide +kernel
theorem dX0_tellNoSpan_63 : decode cX0_tellNoSpan 63 = .ok (.return_, 1) := by decide +kernel
theorem dX0_tellLimited_0 : decode cX0_tellLimited 0 = .ok (.aload_n 0, 1) := by decide +kernel
theorem dX0_tellLimited_1 : decode cX0_tellLimited 1 = .ok (.getfield 39, 3) := by decide +kernel
theorem dX0_tellLimited_4 : decode cX0_tellLimited 4 = .ok (.iconst 0, 1) := by decide +kernel
theorem dX0_tellLimited_5 : decode cX0_tellLimited 5 = .ok (.iconst 2, 1) := by decide +kernel
theorem dX0_tellLimited_6 : decode cX0_tellLimited 6 = .ok (.iastore, 1) := by decide +kernel
theorem dX0_tellLimited_7 : decode cX0_tellLimited 7 = .ok (.aload_n 0, 1) := by decide +kernel
theorem dX0_tellLimited_8 : decode cX0_tellLimited 8 = .ok (.getfield 39, 3) := by decide +kernel
theorem dX0_tellLimited_11 : decode cX0_tellLimited 11 = .ok (.iconst 1, 1) := by decide +kernel
theorem dX0_tellLimited_12 : decode cX0_tellLimited 12 = .ok (.bipush 20, 2) := by decide +kernel
theorem dX0_tellLimited_14 : decode cX0_tellLimited 14 = .ok (.iload_n 1, 1) := by decide +kernel
theorem dX0_tellLimited_15 : decode cX0_tellLimited 15 = .ok (.iadd, 1) := by decide +kernel
theorem dX0_tellLimited_16 : decode cX0_tellLimited 16 = .ok (.iastore, 1) := by decide +kernel
theorem dX0_tellLimited_17 : decode cX0_tellLimited 17 = .ok (.aload_n 0, 1) := by decide +kernel
theorem dX0_tellLimited_18 : decode cX0_tellLimited 18 = .ok (.getfield 39, 3) := by decide +kernel
theorem dX0_tellLimited_21 : decode cX0_tellLimited 21 = .ok (.iconst 2, 1) := by decide +kernel
theorem dX0_tellLimited_22 : decode cX0_tellLimited 22 = .ok (.iload_n 2, 1) := by decide +kernel
theorem dX0_tellLimited_23 : decode cX0_tellLimited 23 = .ok (.ifCond .eq 7, 3) := by decide +kernel
theorem dX0_tellLimited_26 : decode cX0_tellLimited 26 = .ok (.iconst 4, 1) := by decide +kernel
theorem dX0_tellLimited_27 : decode cX0_tellLimited 27 = .ok (.goto 4, 3) := by decide +kernel
theorem dX0_tellLimited_30 : decode cX0_tellLimited 30 = .ok (.iconst 3, 1) := by decide +kernel
theorem dX0_tellLimited_31 : decode cX0_tellLimited 31 = .ok (.iastore, 1) := by decide +kernel
theorem dX0_tellLimited_32 : decode cX0_tellLimited 32 = .ok (.aload_n 0, 1) := by decide +kernel
theorem dX0_tellLimited_33 : decode cX0_tellLimited 33 = .ok (.iconst 3, 1) := by decide +kernel
theorem dX0_tellLimited_34 : decode cX0_tellLimited 34 = .ok (.putfield 43, 3) := by decide +kernel
theorem dX0_tellLimited_37 : decode cX0_tellLimited 37 = .ok (.return_, 1) := by decide +kernel
set_option maxRecDepth 20000 in
theorem ggX1_init_X0_init : GoodIn wsX1_init wsX0_init := goodIn_r _ [10, 11, 2, 3, 12, 13, 14, 15, 16, 17, 18, 19, 20, 21, 22, 23, 24, 25, 26, 27, 28, 29, 30, 33, 34, 35, 36, 37, 38, 39, 40, 41, 42, 43, 44, 45, 46, 47, 48, 49] (by decide +kernel) (by decide +kernel)
set_option maxRecDepth 20000 in
theorem gX1_init_X0_init : GoodIn wsX1_init (wsX0_init) := ggX1_init_X0_init
theorem dX1_init_0 : decode cX1_init 0 = .ok (.aload_n 0, 1) := by decide +kernel
theorem dX1_init_1 : decode cX1_init 1 = .ok (.invokespecial 3, 3) := by decide +kernel
theorem dX1_init_4 : decode cX1_init 4 = .ok (.aload_n 0, 1) := by decide +kernel
theorem dX1_init_5 : decode cX1_init 5 = .ok (.iconst 4, 1) := by decide +kernel
theorem dX1_init_6 : decode cX1_init 6 = .ok (.anewarray 9, 3) := by decide +kernel
theorem dX1_init_9 : decode cX1_init 9 = .ok (.putfield 11, 3) := by decide +kernel
theorem dX1_init_12 : decode cX1_init 12 = .ok (.iconst 0, 1) := by decide +kernel
theorem dX1_init_13 : decode cX1_init 13 = .ok (.istore_n 1, 1) := by decide +kernel
theorem dX1_init_14 : decode cX1_init 14 = .ok (.iload_n 1, 1) := by decide +kernel
theorem dX1_init_15 : decode cX1_init 15 = .ok (.iconst 4, 1) := by decide +kernel
theorem dX1_init_16 : decode cX1_init 16 = .ok (.if_icmp .ge 22, 3) := by decide +kernel
theorem dX1_init_19 : decode cX1_init 19 = .ok (.aload_n 0, 1) := by decide +kernel
theorem dX1_init_20 : decode cX1_init 20 = .ok (.getfield 11, 3) := by decide +kernel
theorem dX1_init_23 : decode cX1_init 23 = .ok (.iload_n 1, 1) := by decide +kernel
theorem dX1_init_24 : decode cX1_init 24 = .ok (.new 9, 3) := by decide +kernel
theorem dX1_init_27 : decode cX1_init 27 = .ok (.dup, 1) := by decide +kernel
theorem dX1_init_28 : decode cX1_init 28 = .ok (.invokespecial 17, 3) := by decide +kernel
theorem dX1_init_31 : decode cX1_init 31 = .ok (.aastore, 1) := by decide +kernel
theorem dX1_init_32 : decode cX1_init 32 = .ok (.iinc 1 1, 3) := by decide +kernel
theorem dX1_init_35 : decode cX1_init 35 = .ok (.goto (-21), 3) := by decide +kernel
theorem dX1_init_38 : decode cX1_init 38 = .ok (.return_, 1) := by decide +kernel
set_option maxRecDepth 20000 in
theorem ggX1_keep_X1_dropOldest : GoodIn wsX1_keep wsX1_dropOldest := goodIn_r _ [7, 2, 1, 40, 41] (by decide +kernel) (by decide +kernel)
set_option maxRecDepth 20000 in
theorem gX1_keep_X1_dropOldest : GoodIn wsX1_keep (wsV RX1 22 RX1 yX1_dropOldest wsX1_dropOldest) := goodIn_app (goodIn_of _ (by decide +kernel)) ggX1_keep_X1_dropOldest
set_option maxRecDepth 20000 in
theorem ggX1_keep_X0_become : GoodIn wsX1_keep wsX0_become := goodIn_r _ [12, 13, 14, 15, 16, 17, 18, 19, 20, 21, 22, 23, 24, 25, 26, 27, 28, 29, 30, 31, 32, 33, 34, 35, 36, 37, 38, 39, 42, 43, 44, 45, 46, 47, 48, 49, 50, 51, 52, 53, 54, 55, 56, 57, 58] (by decide +kernel) (by decide +kernel)
set_option maxRecDepth 20000 in
theorem gX1_keep_X0_become : GoodIn wsX1_keep (wsV RX1 25 RX0 yX0_become wsX0_become) := goodIn_app (goodIn_of _ (by decide +kernel)) ggX1_keep_X0_become
theorem dX1_keep_0 : decode cX1_keep 0 = .ok (.aload_n 0, 1) := by decide +kernel
theorem dX1_keep_1 : decode cX1_keep 1 = .ok (.getfield 18, 3) := by decide +kernel
theorem dX1_keep_4 : decode cX1_keep 4 = .ok (.iconst 4, 1) := by decide +kernel
theorem dX1_keep_5 : decode cX1_keep 5 = .ok (.if_icmp .lt 7, 3) := by decide +kernel
theorem dX1_keep_8 : decode cX1_keep 8 = .ok (.aload_n 0, 1) := by decide +kernel
theorem dX1_keep_9 : decode cX1_keep 9 = .ok (.invokevirtual 22, 3) := by decide +kernel
theorem dX1_keep_12 : decode cX1_keep 12 = .ok (.aload_n 0, 1) := by decide +kernel
theorem dX1_keep_13 : decode cX1_keep 13 = .ok (.getfield 11, 3) := by decide +kernel
theorem dX1_keep_16 : decode cX1_keep 16 = .ok (.aload_n 0, 1) := by decide +kernel
theorem dX1_keep_17 : decode cX1_keep 17 = .ok (.getfield 18, 3) := by decide +kernel
theorem dX1_keep_20 : decode cX1_keep 20 = .ok (.aaload, 1) := by decide +kernel
theorem dX1_keep_21 : decode cX1_keep 21 = .ok (.aload_n 1, 1) := by decide +kernel
theorem dX1_keep_22 : decode cX1_keep 22 = .ok (.invokevirtual 25, 3) := by decide +kernel
theorem dX1_keep_25 : decode cX1_keep 25 = .ok (.aload_n 0, 1) := by decide +kernel
theorem dX1_keep_26 : decode cX1_keep 26 = .ok (.dup, 1) := by decide +kernel
theorem dX1_keep_27 : decode cX1_keep 27 = .ok (.getfield 18, 3) := by decide +kernel
theorem dX1_keep_30 : decode cX1_keep 30 = .ok (.iconst 1, 1) := by decide +kernel
theorem dX1_keep_31 : decode cX1_keep 31 = .ok (.iadd, 1) := by decide +kernel
theorem dX1_keep_32 : decode cX1_keep 32 = .ok (.putfield 18, 3) := by decide +kernel
theorem dX1_keep_35 : decode cX1_keep 35 = .ok (.return_, 1) := by decide +kernel
theorem dX1_dropOldest_0 : decode cX1_dropOldest 0 = .ok (.aload_n 0, 1) := by decide +kernel
theorem dX1_dropOldest_1 : decode cX1_dropOldest 1 = .ok (.getfield 11, 3) := by decide +kernel
theorem dX1_dropOldest_4 : decode cX1_dropOldest 4 = .ok (.iconst 0, 1) := by decide +kernel
theorem dX1_dropOldest_5 : decode cX1_dropOldest 5 = .ok (.aaload, 1) := by decide +kernel
theorem dX1_dropOldest_6 : decode cX1_dropOldest 6 = .ok (.astore_n 1, 1) := by decide +kernel
theorem dX1_dropOldest_7 : decode cX1_dropOldest 7 = .ok (.iconst 1, 1) := by decide +kernel
theorem dX1_dropOldest_8 : decode cX1_dropOldest 8 = .ok (.istore_n 2, 1) := by decide +kernel
theorem dX1_dropOldest_9 : decode cX1_dropOldest 9 = .ok (.iload_n 2, 1) := by decide +kernel
theorem dX1_dropOldest_10 : decode cX1_dropOldest 10 = .ok (.iconst 4, 1) := by decide +kernel
theorem dX1_dropOldest_11 : decode cX1_dropOldest 11 = .ok (.if_icmp .ge 23, 3) := by decide +kernel
theorem dX1_dropOldest_14 : decode cX1_dropOldest 14 = .ok (.aload_n 0, 1) := by decide +kernel
theorem dX1_dropOldest_15 : decode cX1_dropOldest 15 = .ok (.getfield 11, 3) := by decide +kernel
theorem dX1_dropOldest_18 : decode cX1_dropOldest 18 = .ok (.iload_n 2, 1) := by decide +kernel
theorem dX1_dropOldest_19 : decode cX1_dropOldest 19 = .ok (.iconst 1, 1) := by decide +kernel
theorem dX1_dropOldest_20 : decode cX1_dropOldest 20 = .ok (.isub, 1) := by decide +kernel
theorem dX1_dropOldest_21 : decode cX1_dropOldest 21 = .ok (.aload_n 0, 1) := by decide +kernel
theorem dX1_dropOldest_22 : decode cX1_dropOldest 22 = .ok (.getfield 11, 3) := by decide +kernel
theorem dX1_dropOldest_25 : decode cX1_dropOldest 25 = .ok (.iload_n 2, 1) := by decide +kernel
theorem dX1_dropOldest_26 : decode cX1_dropOldest 26 = .ok (.aaload, 1) := by decide +kernel
theorem dX1_dropOldest_27 : decode cX1_dropOldest 27 = .ok (.aastore, 1) := by decide +kernel
theorem dX1_dropOldest_28 : decode cX1_dropOldest 28 = .ok (.iinc 2 1, 3) := by decide +kernel
theorem dX1_dropOldest_31 : decode cX1_dropOldest 31 = .ok (.goto (-22), 3) := by decide +kernel
theorem dX1_dropOldest_34 : decode cX1_dropOldest 34 = .ok (.aload_n 0, 1) := by decide +kernel
theorem dX1_dropOldest_35 : decode cX1_dropOldest 35 = .ok (.getfield 11, 3) := by decide +kernel
theorem dX1_dropOldest_38 : decode cX1_dropOldest 38 = .ok (.iconst 3, 1) := by decide +kernel
theorem dX1_dropOldest_39 : decode cX1_dropOldest 39 = .ok (.aload_n 1, 1) := by decide +kernel
theorem dX1_dropOldest_40 : decode cX1_dropOldest 40 = .ok (.aastore, 1) := by decide +kernel
theorem dX1_dropOldest_41 : decode cX1_dropOldest 41 = .ok (.aload_n 0, 1) := by decide +kernel
theorem dX1_dropOldest_42 : decode cX1_dropOldest 42 = .ok (.iconst 3, 1) := by decide +kernel
theorem dX1_dropOldest_43 : decode cX1_dropOldest 43 = .ok (.putfield 18, 3) := by decide +kernel
theorem dX1_dropOldest_46 : decode cX1_dropOldest 46 = .ok (.return_, 1) := by decide +kernel
set_option maxRecDepth 20000 in
theorem ggX1_giveBack_X0_become : GoodIn wsX1_giveBack wsX0_become := goodIn_r _ [8, 9, 10, 11, 12, 13, 14, 15, 16, 17, 18, 19, 20, 21, 22, 23, 24, 25, 26, 27, 28, 29, 30, 31, 32, 33, 34, 35, 38, 39, 40, 41, 42, 43, 44, 45, 46, 47, 48, 49, 50, 51, 52, 53, 54] (by decide +kernel) (by decide +kernel)
set_option maxRecDepth 20000 in
theorem gX1_giveBack_X0_become : GoodIn wsX1_giveBack (wsV RX1 25 RX0 yX0_become wsX0_become) := goodIn_app (goodIn_of _ (by decide +kernel)) ggX1_giveBack_X0_become
theorem dX1_giveBack_0 : decode cX1_giveBack 0 = .ok (.aload_n 0, 1) := by decide +kernel
theorem dX1_giveBack_1 : decode cX1_giveBack 1 = .ok (.getfield 18, 3) := by decide +kernel
theorem dX1_giveBack_4 : decode cX1_giveBack 4 = .ok (.ifCond .gt 6, 3) := by decide +kernel
theorem dX1_giveBack_7 : decode cX1_giveBack 7 = .ok (.ldc 29, 2) := by decide +kernel
theorem dX1_giveBack_9 : decode cX1_giveBack 9 = .ok (.ireturn, 1) := by decide +kernel
theorem dX1_giveBack_10 : decode cX1_giveBack 10 = .ok (.aload_n 0, 1) := by decide +kernel
theorem dX1_giveBack_11 : decode cX1_giveBack 11 = .ok (.dup, 1) := by decide +kernel
theorem dX1_giveBack_12 : decode cX1_giveBack 12 = .ok (.getfield 18, 3) := by decide +kernel
theorem dX1_giveBack_15 : decode cX1_giveBack 15 = .ok (.iconst 1, 1) := by decide +kernel
theorem dX1_giveBack_16 : decode cX1_giveBack 16 = .ok (.isub, 1) := by decide +kernel
theorem dX1_giveBack_17 : decode cX1_giveBack 17 = .ok (.putfield 18, 3) := by decide +kernel
theorem dX1_giveBack_20 : decode cX1_giveBack 20 = .ok (.aload_n 1, 1) := by decide +kernel
theorem dX1_giveBack_21 : decode cX1_giveBack 21 = .ok (.aload_n 0, 1) := by decide +kernel
theorem dX1_giveBack_22 : decode cX1_giveBack 22 = .ok (.getfield 11, 3) := by decide +kernel
theorem dX1_giveBack_25 : decode cX1_giveBack 25 = .ok (.aload_n 0, 1) := by decide +kernel
theorem dX1_giveBack_26 : decode cX1_giveBack 26 = .ok (.getfield 18, 3) := by decide +kernel
theorem dX1_giveBack_29 : decode cX1_giveBack 29 = .ok (.aaload, 1) := by decide +kernel
theorem dX1_giveBack_30 : decode cX1_giveBack 30 = .ok (.invokevirtual 25, 3) := by decide +kernel
theorem dX1_giveBack_33 : decode cX1_giveBack 33 = .ok (.aload_n 0, 1) := by decide +kernel
theorem dX1_giveBack_34 : decode cX1_giveBack 34 = .ok (.getfield 18, 3) := by decide +kernel
theorem dX1_giveBack_37 : decode cX1_giveBack 37 = .ok (.ireturn, 1) := by decide +kernel
theorem dX2_init_0 : decode cX2_init 0 = .ok (.aload_n 0, 1) := by decide +kernel
theorem dX2_init_1 : decode cX2_init 1 = .ok (.invokespecial 3, 3) := by decide +kernel
theorem dX2_init_4 : decode cX2_init 4 = .ok (.aload_n 0, 1) := by decide +kernel
theorem dX2_init_5 : decode cX2_init 5 = .ok (.iconst 3, 1) := by decide +kernel
theorem dX2_init_6 : decode cX2_init 6 = .ok (.newarray .long, 2) := by decide +kernel
theorem dX2_init_8 : decode cX2_init 8 = .ok (.putfield 9, 3) := by decide +kernel
theorem dX2_init_11 : decode cX2_init 11 = .ok (.aload_n 0, 1) := by decide +kernel
theorem dX2_init_12 : decode cX2_init 12 = .ok (.iconst 3, 1) := by decide +kernel
theorem dX2_init_13 : decode cX2_init 13 = .ok (.newarray .long, 2) := by decide +kernel
theorem dX2_init_15 : decode cX2_init 15 = .ok (.putfield 15, 3) := by decide +kernel
theorem dX2_init_18 : decode cX2_init 18 = .ok (.return_, 1) := by decide +kernel
set_option maxRecDepth 20000 in
theorem ggX2_letGo_X0_wheelMomentum : GoodIn wsX2_letGo wsX0_wheelMomentum := goodIn_r _ [11, 12, 13, 14, 15, 37, 38, 39, 40, 41, 42, 43, 44, 45, 46, 47, 50, 51, 52, 53, 54, 55] (by decide +kernel) (by decide +kernel)
set_option maxRecDepth 20000 in
theorem gX2_letGo_X0_wheelMomentum : GoodIn wsX2_letGo (wsV RX2 28 RX0 yX0_wheelMomentum wsX0_wheelMomentum) := goodIn_app (goodIn_of _ (by decide +kernel)) ggX2_letGo_X0_wheelMomentum
set_option maxRecDepth 20000 in
theorem ggX2_letGo_X2_crossed : GoodIn wsX2_letGo wsX2_crossed := goodIn_r _ [19, 20, 21, 22] (by decide +kernel) (by decide +kernel)
set_option maxRecDepth 20000 in
theorem gX2_letGo_X2_crossed : GoodIn wsX2_letGo (va_wsS RX2 32 yX2_crossed wsX2_crossed) := goodIn_app (goodIn_of _ (by decide +kernel)) ggX2_letGo_X2_crossed
set_option maxRecDepth 20000 in
theorem ggX2_letGo_X5_quotient : GoodIn wsX2_letGo wsX5_quotient := goodIn_r _ [24, 25, 26, 27, 28] (by decide +kernel) (by decide +kernel)
set_option maxRecDepth 20000 in
theorem gX2_letGo_X5_quotient_n38 : GoodIn wsX2_letGo (wsX5_quotient) := ggX2_letGo_X5_quotient
set_option maxRecDepth 20000 in
theorem ggX2_letGo_X5_limited : GoodIn wsX2_letGo wsX5_limited := goodIn_r _ [30] (by decide +kernel) (by decide +kernel)
set_option maxRecDepth 20000 in
theorem gX2_letGo_X5_limited_n42 : GoodIn wsX2_letGo (wsX5_limited) := ggX2_letGo_X5_limited
set_option maxRecDepth 20000 in
theorem ggX2_letGo_X0_pushFromOutside : GoodIn wsX2_letGo wsX0_pushFromOutside := goodIn_r _ [34, 35, 36, 37, 38, 39, 40, 41, 42, 43, 44, 45, 46, 47] (by decide +kernel) (by decide +kernel)
set_option maxRecDepth 20000 in
theorem gX2_letGo_X0_pushFromOutside : GoodIn wsX2_letGo (wsV RX2 48 RX0 yX0_pushFromOutside wsX0_pushFromOutside) := goodIn_app (goodIn_of _ (by decide +kernel)) ggX2_letGo_X0_pushFromOutside
theorem dX2_letGo_0 : decode cX2_letGo 0 = .ok (.aload_n 1, 1) := by decide +kernel
theorem dX2_letGo_1 : decode cX2_letGo 1 = .ok (.getfield 18, 3) := by decide +kernel
theorem dX2_letGo_4 : decode cX2_letGo 4 = .ok (.iconst 2, 1) := by decide +kernel
theorem dX2_letGo_5 : decode cX2_letGo 5 = .ok (.aaload, 1) := by decide +kernel
theorem dX2_letGo_6 : decode cX2_letGo 6 = .ok (.astore_n 2, 1) := by decide +kernel
theorem dX2_letGo_7 : decode cX2_letGo 7 = .ok (.aload_n 1, 1) := by decide +kernel
theorem dX2_letGo_8 : decode cX2_letGo 8 = .ok (.getfield 24, 3) := by decide +kernel
theorem dX2_letGo_11 : decode cX2_letGo 11 = .ok (.iconst 4, 1) := by decide +kernel
theorem dX2_letGo_12 : decode cX2_letGo 12 = .ok (.iaload, 1) := by decide +kernel
theorem dX2_letGo_13 : decode cX2_letGo 13 = .ok (.i2l, 1) := by decide +kernel
theorem dX2_letGo_14 : decode cX2_letGo 14 = .ok (.lstore_n 3, 1) := by decide +kernel
theorem dX2_letGo_15 : decode cX2_letGo 15 = .ok (.iconst 0, 1) := by decide +kernel
theorem dX2_letGo_16 : decode cX2_letGo 16 = .ok (.istore 5, 2) := by decide +kernel
theorem dX2_letGo_18 : decode cX2_letGo 18 = .ok (.iload 5, 2) := by decide +kernel
theorem dX2_letGo_20 : decode cX2_letGo 20 = .ok (.iconst 3, 1) := by decide +kernel
theorem dX2_letGo_21 : decode cX2_letGo 21 = .ok (.if_icmp .ge 22, 3) := by decide +kernel
theorem dX2_letGo_24 : decode cX2_letGo 24 = .ok (.aload_n 0, 1) := by decide +kernel
theorem dX2_letGo_25 : decode cX2_letGo 25 = .ok (.getfield 9, 3) := by decide +kernel
theorem dX2_letGo_28 : decode cX2_letGo 28 = .ok (.iload 5, 2) := by decide +kernel
theorem dX2_letGo_30 : decode cX2_letGo 30 = .ok (.aload_n 1, 1) := by decide +kernel
theorem dX2_letGo_31 : decode cX2_letGo 31 = .ok (.iload 5, 2) := by decide +kernel
theorem dX2_letGo_33 : decode cX2_letGo 33 = .ok (.invokevirtual 28, 3) := by decide +kernel
theorem dX2_letGo_36 : decode cX2_letGo 36 = .ok (.lastore, 1) := by decide +kernel
theorem dX2_letGo_37 : decode cX2_letGo 37 = .ok (.iinc 5 1, 3) := by decide +kernel
theorem dX2_letGo_40 : decode cX2_letGo 40 = .ok (.goto (-22), 3) := by decide +kernel
theorem dX2_letGo_43 : decode cX2_letGo 43 = .ok (.iconst 0, 1) := by decide +kernel
theorem dX2_letGo_44 : decode cX2_letGo 44 = .ok (.istore 5, 2) := by decide +kernel
theorem dX2_letGo_46 : decode cX2_letGo 46 = .ok (.iload 5, 2) := by decide +kernel
theorem dX2_letGo_48 : decode cX2_letGo 48 = .ok (.iconst 3, 1) := by decide +kernel
theorem dX2_letGo_49 : decode cX2_letGo 49 = .ok (.if_icmp .ge 38, 3) := by decide +kernel
theorem dX2_letGo_52 : decode cX2_letGo 52 = .ok (.aload_n 0, 1) := by decide +kernel
theorem dX2_letGo_53 : decode cX2_letGo 53 = .ok (.getfield 15, 3) := by decide +kernel
theorem dX2_letGo_56 : decode cX2_letGo 56 = .ok (.iload 5, 2) := by decide +kernel
theorem dX2_letGo_58 : decode cX2_letGo 58 = .ok (.aload_n 0, 1) := by decide +kernel
theorem dX2_letGo_59 : decode cX2_letGo 59 = .ok (.getfield 9, 3) := by decide +kernel
theorem dX2_letGo_62 : decode cX2_letGo 62 = .ok (.aload_n 2, 1) := by decide +kernel
theorem dX2_letGo_63 : decode cX2_letGo 63 = .ok (.iload 5, 2) := by decide +kernel
theorem dX2_letGo_65 : decode cX2_letGo 65 = .ok (.invokestatic 32, 3) := by decide +kernel
theorem dX2_letGo_68 : decode cX2_letGo 68 = .ok (.ldc2_w 36, 3) := by decide +kernel
theorem dX2_letGo_71 : decode cX2_letGo 71 = .ok (.invokestatic 38, 3) := by decide +kernel
theorem dX2_letGo_74 : decode cX2_letGo 74 = .ok (.lload_n 3, 1) := by decide +kernel
theorem dX2_letGo_75 : decode cX2_letGo 75 = .ok (.lneg, 1) := by decide +kernel
theorem dX2_letGo_76 : decode cX2_letGo 76 = .ok (.lload_n 3, 1) := by decide +kernel
theorem dX2_letGo_77 : decode cX2_letGo 77 = .ok (.invokestatic 42, 3) := by decide +kernel
theorem dX2_letGo_80 : decode cX2_letGo 80 = .ok (.lastore, 1) := by decide +kernel
theorem dX2_letGo_81 : decode cX2_letGo 81 = .ok (.iinc 5 1, 3) := by decide +kernel
theorem dX2_letGo_84 : decode cX2_letGo 84 = .ok (.goto (-38), 3) := by decide +kernel
theorem dX2_letGo_87 : decode cX2_letGo 87 = .ok (.iconst 0, 1) := by decide +kernel
theorem dX2_letGo_88 : decode cX2_letGo 88 = .ok (.istore 5, 2) := by decide +kernel
theorem dX2_letGo_90 : decode cX2_letGo 90 = .ok (.iload 5, 2) := by decide +kernel
theorem dX2_letGo_92 : decode cX2_letGo 92 = .ok (.iconst 3, 1) := by decide +kernel
theorem dX2_letGo_93 : decode cX2_letGo 93 = .ok (.if_icmp .ge 31, 3) := by decide +kernel
theorem dX2_letGo_96 : decode cX2_letGo 96 = .ok (.aload_n 1, 1) := by decide +kernel
theorem dX2_letGo_97 : decode cX2_letGo 97 = .ok (.iload 5, 2) := by decide +kernel
theorem dX2_letGo_99 : decode cX2_letGo 99 = .ok (.aload_n 0, 1) := by decide +kernel
theorem dX2_letGo_100 : decode cX2_letGo 100 = .ok (.getfield 15, 3) := by decide +kernel
theorem dX2_letGo_103 : decode cX2_letGo 103 = .ok (.aload_n 2, 1) := by decide +kernel
theorem dX2_letGo_104 : decode cX2_letGo 104 = .ok (.iload 5, 2) := by decide +kernel
theorem dX2_letGo_106 : decode cX2_letGo 106 = .ok (.invokestatic 32, 3) := by decide +kernel
theorem dX2_letGo_109 : decode cX2_letGo 109 = .ok (.ldc2_w 46, 3) := by decide +kernel
theorem dX2_letGo_112 : decode cX2_letGo 112 = .ok (.invokestatic 38, 3) := by decide +kernel
theorem dX2_letGo_115 : decode cX2_letGo 115 = .ok (.invokevirtual 48, 3) := by decide +kernel
theorem dX2_letGo_118 : decode cX2_letGo 118 = .ok (.iinc 5 1, 3) := by decide +kernel
theorem dX2_letGo_121 : decode cX2_letGo 121 = .ok (.goto (-31), 3) := by decide +kernel
theorem dX2_letGo_124 : decode cX2_letGo 124 = .ok (.return_, 1) := by decide +kernel
set_option maxRecDepth 20000 in
theorem ggX2_crossed_X5_axisAfter : GoodIn wsX2_crossed wsX5_axisAfter := goodIn_r _ [3] (by decide +kernel) (by decide +kernel)
set_option maxRecDepth 20000 in
theorem gX2_crossed_X5_axisAfter_n52 : GoodIn wsX2_crossed (wsX5_axisAfter) := ggX2_crossed_X5_axisAfter
theorem dX2_crossed_0 : decode cX2_crossed 0 = .ok (.iload_n 2, 1) := by decide +kernel
theorem dX2_crossed_1 : decode cX2_crossed 1 = .ok (.iconst 1, 1) := by decide +kernel
theorem dX2_crossed_2 : decode cX2_crossed 2 = .ok (.invokestatic 52, 3) := by decide +kernel
theorem dX2_crossed_5 : decode cX2_crossed 5 = .ok (.istore_n 3, 1) := by decide +kernel
theorem dX2_crossed_6 : decode cX2_crossed 6 = .ok (.iload_n 2, 1) := by decide +kernel
theorem dX2_crossed_7 : decode cX2_crossed 7 = .ok (.iconst 2, 1) := by decide +kernel
theorem dX2_crossed_8 : decode cX2_crossed 8 = .ok (.invokestatic 52, 3) := by decide +kernel
theorem dX2_crossed_11 : decode cX2_crossed 11 = .ok (.istore 4, 2) := by decide +kernel
theorem dX2_crossed_13 : decode cX2_crossed 13 = .ok (.aload_n 0, 1) := by decide +kernel
theorem dX2_crossed_14 : decode cX2_crossed 14 = .ok (.iload_n 3, 1) := by decide +kernel
theorem dX2_crossed_15 : decode cX2_crossed 15 = .ok (.laload, 1) := by decide +kernel
theorem dX2_crossed_16 : decode cX2_crossed 16 = .ok (.aload_n 1, 1) := by decide +kernel
theorem dX2_crossed_17 : decode cX2_crossed 17 = .ok (.iload 4, 2) := by decide +kernel
theorem dX2_crossed_19 : decode cX2_crossed 19 = .ok (.iaload, 1) := by decide +kernel
theorem dX2_crossed_20 : decode cX2_crossed 20 = .ok (.i2l, 1) := by decide +kernel
theorem dX2_crossed_21 : decode cX2_crossed 21 = .ok (.lmul, 1) := by decide +kernel
theorem dX2_crossed_22 : decode cX2_crossed 22 = .ok (.aload_n 0, 1) := by decide +kernel
theorem dX2_crossed_23 : decode cX2_crossed 23 = .ok (.iload 4, 2) := by decide +kernel
theorem dX2_crossed_25 : decode cX2_crossed 25 = .ok (.laload, 1) := by decide +kernel
theorem dX2_crossed_26 : decode cX2_crossed 26 = .ok (.aload_n 1, 1) := by decide +kernel
theorem dX2_crossed_27 : decode cX2_crossed 27 = .ok (.iload_n 3, 1) := by decide +kernel
theorem dX2_crossed_28 : decode cX2_crossed 28 = .ok (.iaload, 1) := by decide +kernel
theorem dX2_crossed_29 : decode cX2_crossed 29 = .ok (.i2l, 1) := by decide +kernel
theorem dX2_crossed_30 : decode cX2_crossed 30 = .ok (.lmul, 1) := by decide +kernel
theorem dX2_crossed_31 : decode cX2_crossed 31 = .ok (.lsub, 1) := by decide +kernel
theorem dX2_crossed_32 : decode cX2_crossed 32 = .ok (.lreturn, 1) := by decide +kernel
theorem dX3_init_0 : decode cX3_init 0 = .ok (.aload_n 0, 1) := by decide +kernel
theorem dX3_init_1 : decode cX3_init 1 = .ok (.invokespecial 3, 3) := by decide +kernel
theorem dX3_init_4 : decode cX3_init 4 = .ok (.aload_n 0, 1) := by decide +kernel
theorem dX3_init_5 : decode cX3_init 5 = .ok (.iconst 3, 1) := by decide +kernel
theorem dX3_init_6 : decode cX3_init 6 = .ok (.iconst 3, 1) := by decide +kernel
theorem dX3_init_7 : decode cX3_init 7 = .ok (.multianewarray 9 2, 4) := by decide +kernel
theorem dX3_init_11 : decode cX3_init 11 = .ok (.putfield 11, 3) := by decide +kernel
theorem dX3_init_14 : decode cX3_init 14 = .ok (.aload_n 0, 1) := by decide +kernel
theorem dX3_init_15 : decode cX3_init 15 = .ok (.iconst 3, 1) := by decide +kernel
theorem dX3_init_16 : decode cX3_init 16 = .ok (.iconst 3, 1) := by decide +kernel
theorem dX3_init_17 : decode cX3_init 17 = .ok (.multianewarray 9 2, 4) := by decide +kernel
theorem dX3_init_21 : decode cX3_init 21 = .ok (.putfield 16, 3) := by decide +kernel
theorem dX3_init_24 : decode cX3_init 24 = .ok (.aload_n 0, 1) := by decide +kernel
theorem dX3_init_25 : decode cX3_init 25 = .ok (.iconst 3, 1) := by decide +kernel
theorem dX3_init_26 : decode cX3_init 26 = .ok (.newarray .long, 2) := by decide +kernel
theorem dX3_init_28 : decode cX3_init 28 = .ok (.putfield 19, 3) := by decide +kernel
theorem dX3_init_31 : decode cX3_init 31 = .ok (.return_, 1) := by decide +kernel
set_option maxRecDepth 20000 in
theorem ggX3_measure_X3_addProducts : GoodIn wsX3_measure wsX3_addProducts := goodIn_r _ [12, 1, 20, 21, 22, 23] (by decide +kernel) (by decide +kernel)
set_option maxRecDepth 20000 in
theorem gX3_measure_X3_addProducts : GoodIn wsX3_measure (wsV RX3 43 RX3 yX3_addProducts wsX3_addProducts) := goodIn_app (goodIn_of _ (by decide +kernel)) ggX3_measure_X3_addProducts
set_option maxRecDepth 20000 in
theorem ggX3_measure_X3_findCofactors : GoodIn wsX3_measure wsX3_findCofactors := goodIn_r _ [16, 7, 1, 17, 18, 19, 20, 21, 22, 23] (by decide +kernel) (by decide +kernel)
set_option maxRecDepth 20000 in
theorem gX3_measure_X3_findCofactors : GoodIn wsX3_measure (wsV RX3 47 RX3 yX3_findCofactors wsX3_findCofactors) := goodIn_app (goodIn_of _ (by decide +kernel)) ggX3_measure_X3_findCofactors
theorem dX3_measure_0 : decode cX3_measure 0 = .ok (.iconst 0, 1) := by decide +kernel
theorem dX3_measure_1 : decode cX3_measure 1 = .ok (.istore_n 3, 1) := by decide +kernel
theorem dX3_measure_2 : decode cX3_measure 2 = .ok (.iload_n 3, 1) := by decide +kernel
theorem dX3_measure_3 : decode cX3_measure 3 = .ok (.iconst 3, 1) := by decide +kernel
theorem dX3_measure_4 : decode cX3_measure 4 = .ok (.if_icmp .ge 34, 3) := by decide +kernel
theorem dX3_measure_7 : decode cX3_measure 7 = .ok (.iconst 0, 1) := by decide +kernel
theorem dX3_measure_8 : decode cX3_measure 8 = .ok (.istore 4, 2) := by decide +kernel
theorem dX3_measure_10 : decode cX3_measure 10 = .ok (.iload 4, 2) := by decide +kernel
theorem dX3_measure_12 : decode cX3_measure 12 = .ok (.iconst 3, 1) := by decide +kernel
theorem dX3_measure_13 : decode cX3_measure 13 = .ok (.if_icmp .ge 19, 3) := by decide +kernel
theorem dX3_measure_16 : decode cX3_measure 16 = .ok (.aload_n 0, 1) := by decide +kernel
theorem dX3_measure_17 : decode cX3_measure 17 = .ok (.getfield 11, 3) := by decide +kernel
theorem dX3_measure_20 : decode cX3_measure 20 = .ok (.iload_n 3, 1) := by decide +kernel
theorem dX3_measure_21 : decode cX3_measure 21 = .ok (.aaload, 1) := by decide +kernel
theorem dX3_measure_22 : decode cX3_measure 22 = .ok (.iload 4, 2) := by decide +kernel
theorem dX3_measure_24 : decode cX3_measure 24 = .ok (.lconst 0, 1) := by decide +kernel
theorem dX3_measure_25 : decode cX3_measure 25 = .ok (.lastore, 1) := by decide +kernel
theorem dX3_measure_26 : decode cX3_measure 26 = .ok (.iinc 4 1, 3) := by decide +kernel
theorem dX3_measure_29 : decode cX3_measure 29 = .ok (.goto (-19), 3) := by decide +kernel
theorem dX3_measure_32 : decode cX3_measure 32 = .ok (.iinc 3 1, 3) := by decide +kernel
theorem dX3_measure_35 : decode cX3_measure 35 = .ok (.goto (-33), 3) := by decide +kernel
theorem dX3_measure_38 : decode cX3_measure 38 = .ok (.iconst 0, 1) := by decide +kernel
theorem dX3_measure_39 : decode cX3_measure 39 = .ok (.istore_n 3, 1) := by decide +kernel
theorem dX3_measure_40 : decode cX3_measure 40 = .ok (.iload_n 3, 1) := by decide +kernel
theorem dX3_measure_41 : decode cX3_measure 41 = .ok (.aload_n 1, 1) := by decide +kernel
theorem dX3_measure_42 : decode cX3_measure 42 = .ok (.getfield 23, 3) := by decide +kernel
theorem dX3_measure_45 : decode cX3_measure 45 = .ok (.if_icmp .ge 39, 3) := by decide +kernel
theorem dX3_measure_48 : decode cX3_measure 48 = .ok (.iload_n 3, 1) := by decide +kernel
theorem dX3_measure_49 : decode cX3_measure 49 = .ok (.iload_n 2, 1) := by decide +kernel
theorem dX3_measure_50 : decode cX3_measure 50 = .ok (.if_icmp .eq 28, 3) := by decide +kernel
theorem dX3_measure_53 : decode cX3_measure 53 = .ok (.aload_n 1, 1) := by decide +kernel
theorem dX3_measure_54 : decode cX3_measure 54 = .ok (.getfield 29, 3) := by decide +kernel
theorem dX3_measure_57 : decode cX3_measure 57 = .ok (.iload_n 3, 1) := by decide +kernel
theorem dX3_measure_58 : decode cX3_measure 58 = .ok (.aaload, 1) := by decide +kernel
theorem dX3_measure_59 : decode cX3_measure 59 = .ok (.getfield 33, 3) := by decide +kernel
theorem dX3_measure_62 : decode cX3_measure 62 = .ok (.ifCond .ne 16, 3) := by decide +kernel
theorem dX3_measure_65 : decode cX3_measure 65 = .ok (.aload_n 0, 1) := by decide +kernel
theorem dX3_measure_66 : decode cX3_measure 66 = .ok (.aload_n 1, 1) := by decide +kernel
theorem dX3_measure_67 : decode cX3_measure 67 = .ok (.getfield 29, 3) := by decide +kernel
theorem dX3_measure_70 : decode cX3_measure 70 = .ok (.iload_n 3, 1) := by decide +kernel
theorem dX3_measure_71 : decode cX3_measure 71 = .ok (.aaload, 1) := by decide +kernel
theorem dX3_measure_72 : decode cX3_measure 72 = .ok (.getfield 39, 3) := by decide +kernel
theorem dX3_measure_75 : decode cX3_measure 75 = .ok (.invokevirtual 43, 3) := by decide +kernel
theorem dX3_measure_78 : decode cX3_measure 78 = .ok (.iinc 3 1, 3) := by decide +kernel
theorem dX3_measure_81 : decode cX3_measure 81 = .ok (.goto (-41), 3) := by decide +kernel
theorem dX3_measure_84 : decode cX3_measure 84 = .ok (.aload_n 0, 1) := by decide +kernel
theorem dX3_measure_85 : decode cX3_measure 85 = .ok (.invokevirtual 47, 3) := by decide +kernel
theorem dX3_measure_88 : decode cX3_measure 88 = .ok (.aload_n 0, 1) := by decide +kernel
theorem dX3_measure_89 : decode cX3_measure 89 = .ok (.lconst 0, 1) := by decide +kernel
theorem dX3_measure_90 : decode cX3_measure 90 = .ok (.putfield 50, 3) := by decide +kernel
theorem dX3_measure_93 : decode cX3_measure 93 = .ok (.iconst 0, 1) := by decide +kernel
theorem dX3_measure_94 : decode cX3_measure 94 = .ok (.istore_n 3, 1) := by decide +kernel
theorem dX3_measure_95 : decode cX3_measure 95 = .ok (.iload_n 3, 1) := by decide +kernel
theorem dX3_measure_96 : decode cX3_measure 96 = .ok (.iconst 3, 1) := by decide +kernel
theorem dX3_measure_97 : decode cX3_measure 97 = .ok (.if_icmp .ge 35, 3) := by decide +kernel
theorem dX3_measure_100 : decode cX3_measure 100 = .ok (.aload_n 0, 1) := by decide +kernel
theorem dX3_measure_101 : decode cX3_measure 101 = .ok (.dup, 1) := by decide +kernel
theorem dX3_measure_102 : decode cX3_measure 102 = .ok (.getfield 50, 3) := by decide +kernel
theorem dX3_measure_105 : decode cX3_measure 105 = .ok (.aload_n 0, 1) := by decide +kernel
theorem dX3_measure_106 : decode cX3_measure 106 = .ok (.getfield 11, 3) := by decide +kernel
theorem dX3_measure_109 : decode cX3_measure 109 = .ok (.iconst 0, 1) := by decide +kernel
theorem dX3_measure_110 : decode cX3_measure 110 = .ok (.aaload, 1) := by decide +kernel
theorem dX3_measure_111 : decode cX3_measure 111 = .ok (.iload_n 3, 1) := by decide +kernel
theorem dX3_measure_112 : decode cX3_measure 112 = .ok (.laload, 1) := by decide +kernel
theorem dX3_measure_113 : decode cX3_measure 113 = .ok (.aload_n 0, 1) := by decide +kernel
theorem dX3_measure_114 : decode cX3_measure 114 = .ok (.getfield 16, 3) := by decide +kernel
theorem dX3_measure_117 : decode cX3_measure 117 = .ok (.iconst 0, 1) := by decide +kernel
theorem dX3_measure_118 : decode cX3_measure 118 = .ok (.aaload, 1) := by decide +kernel
theorem dX3_measure_119 : decode cX3_measure 119 = .ok (.iload_n 3, 1) := by decide +kernel
theorem dX3_measure_120 : decode cX3_measure 120 = .ok (.laload, 1) := by decide +kernel
theorem dX3_measure_121 : decode cX3_measure 121 = .ok (.lmul, 1) := by decide +kernel
theorem dX3_measure_122 : decode cX3_measure 122 = .ok (.ladd, 1) := by decide +kernel
theorem dX3_measure_123 : decode cX3_measure 123 = .ok (.putfield 50, 3) := by decide +kernel
theorem dX3_measure_126 : decode cX3_measure 126 = .ok (.iinc 3 1, 3) := by decide +kernel
theorem dX3_measure_129 : decode cX3_measure 129 = .ok (.goto (-34), 3) := by decide +kernel
theorem dX3_measure_132 : decode cX3_measure 132 = .ok (.return_, 1) := by decide +kernel
theorem dX3_addProducts_0 : decode cX3_addProducts 0 = .ok (.iconst 0, 1) := by decide +kernel
theorem dX3_addProducts_1 : decode cX3_addProducts 1 = .ok (.istore_n 2, 1) := by decide +kernel
theorem dX3_addProducts_2 : decode cX3_addProducts 2 = .ok (.iload_n 2, 1) := by decide +kernel
theorem dX3_addProducts_3 : decode cX3_addProducts 3 = .ok (.iconst 3, 1) := by decide +kernel
theorem dX3_addProducts_4 : decode cX3_addProducts 4 = .ok (.if_icmp .ge 41, 3) := by decide +kernel
theorem dX3_addProducts_7 : decode cX3_addProducts 7 = .ok (.iconst 0, 1) := by decide +kernel
theorem dX3_addProducts_8 : decode cX3_addProducts 8 = .ok (.istore_n 3, 1) := by decide +kernel
theorem dX3_addProducts_9 : decode cX3_addProducts 9 = .ok (.iload_n 3, 1) := by decide +kernel
theorem dX3_addProducts_10 : decode cX3_addProducts 10 = .ok (.iconst 3, 1) := by decide +kernel
theorem dX3_addProducts_11 : decode cX3_addProducts 11 = .ok (.if_icmp .ge 28, 3) := by decide +kernel
theorem dX3_addProducts_14 : decode cX3_addProducts 14 = .ok (.aload_n 0, 1) := by decide +kernel
theorem dX3_addProducts_15 : decode cX3_addProducts 15 = .ok (.getfield 11, 3) := by decide +kernel
theorem dX3_addProducts_18 : decode cX3_addProducts 18 = .ok (.iload_n 2, 1) := by decide +kernel
theorem dX3_addProducts_19 : decode cX3_addProducts 19 = .ok (.aaload, 1) := by decide +kernel
theorem dX3_addProducts_20 : decode cX3_addProducts 20 = .ok (.iload_n 3, 1) := by decide +kernel
theorem dX3_addProducts_21 : decode cX3_addProducts 21 = .ok (.dup2, 1) := by decide +kernel
theorem dX3_addProducts_22 : decode cX3_addProducts 22 = .ok (.laload, 1) := by decide +kernel
theorem dX3_addProducts_23 : decode cX3_addProducts 23 = .ok (.aload_n 1, 1) := by decide +kernel
theorem dX3_addProducts_24 : decode cX3_addProducts 24 = .ok (.iload_n 2, 1) := by decide +kernel
theorem dX3_addProducts_25 : decode cX3_addProducts 25 = .ok (.iaload, 1) := by decide +kernel
theorem dX3_addProducts_26 : decode cX3_addProducts 26 = .ok (.aload_n 1, 1) := by decide +kernel
theorem dX3_addProducts_27 : decode cX3_addProducts 27 = .ok (.iload_n 3, 1) := by decide +kernel
theorem dX3_addProducts_28 : decode cX3_addProducts 28 = .ok (.iaload, 1) := by decide +kernel
theorem dX3_addProducts_29 : decode cX3_addProducts 29 = .ok (.imul, 1) := by decide +kernel
theorem dX3_addProducts_30 : decode cX3_addProducts 30 = .ok (.i2l, 1) := by decide +kernel
theorem dX3_addProducts_31 : decode cX3_addProducts 31 = .ok (.ladd, 1) := by decide +kernel
theorem dX3_addProducts_32 : decode cX3_addProducts 32 = .ok (.lastore, 1) := by decide +kernel
theorem dX3_addProducts_33 : decode cX3_addProducts 33 = .ok (.iinc 3 1, 3) := by decide +kernel
theorem dX3_addProducts_36 : decode cX3_addProducts 36 = .ok (.goto (-27), 3) := by decide +kernel
theorem dX3_addProducts_39 : decode cX3_addProducts 39 = .ok (.iinc 2 1, 3) := by decide +kernel
theorem dX3_addProducts_42 : decode cX3_addProducts 42 = .ok (.goto (-40), 3) := by decide +kernel
theorem dX3_addProducts_45 : decode cX3_addProducts 45 = .ok (.return_, 1) := by decide +kernel
set_option maxRecDepth 20000 in
theorem ggX3_findCofactors_X5_axisAfter : GoodIn wsX3_findCofactors wsX5_axisAfter := goodIn_r _ [5] (by decide +kernel) (by decide +kernel)
set_option maxRecDepth 20000 in
theorem gX3_findCofactors_X5_axisAfter_n54 : GoodIn wsX3_findCofactors (wsX5_axisAfter) := ggX3_findCofactors_X5_axisAfter
theorem dX3_findCofactors_0 : decode cX3_findCofactors 0 = .ok (.iconst 0, 1) := by decide +kernel
theorem dX3_findCofactors_1 : decode cX3_findCofactors 1 = .ok (.istore_n 1, 1) := by decide +kernel
theorem dX3_findCofactors_2 : decode cX3_findCofactors 2 = .ok (.iload_n 1, 1) := by decide +kernel
theorem dX3_findCofactors_3 : decode cX3_findCofactors 3 = .ok (.iconst 3, 1) := by decide +kernel
theorem dX3_findCofactors_4 : decode cX3_findCofactors 4 = .ok (.if_icmp .ge 100, 3) := by decide +kernel
theorem dX3_findCofactors_7 : decode cX3_findCofactors 7 = .ok (.iload_n 1, 1) := by decide +kernel
theorem dX3_findCofactors_8 : decode cX3_findCofactors 8 = .ok (.iconst 1, 1) := by decide +kernel
theorem dX3_findCofactors_9 : decode cX3_findCofactors 9 = .ok (.invokestatic 54, 3) := by decide +kernel
theorem dX3_findCofactors_12 : decode cX3_findCofactors 12 = .ok (.istore_n 2, 1) := by decide +kernel
theorem dX3_findCofactors_13 : decode cX3_findCofactors 13 = .ok (.iload_n 1, 1) := by decide +kernel
theorem dX3_findCofactors_14 : decode cX3_findCofactors 14 = .ok (.iconst 2, 1) := by decide +kernel
theorem dX3_findCofactors_15 : decode cX3_findCofactors 15 = .ok (.invokestatic 54, 3) := by decide +kernel
theorem dX3_findCofactors_18 : decode cX3_findCofactors 18 = .ok (.istore_n 3, 1) := by decide +kernel
theorem dX3_findCofactors_19 : decode cX3_findCofactors 19 = .ok (.iconst 0, 1) := by decide +kernel
theorem dX3_findCofactors_20 : decode cX3_findCofactors 20 = .ok (.istore 4, 2) := by decide +kernel
theorem dX3_findCofactors_22 : decode cX3_findCofactors 22 = .ok (.iload 4, 2) := by decide +kernel
theorem dX3_findCofactors_24 : decode cX3_findCofactors 24 = .ok (.iconst 3, 1) := by decide +kernel
theorem dX3_findCofactors_25 : decode cX3_findCofactors 25 = .ok (.if_icmp .ge 73, 3) := by decide +kernel
theorem dX3_findCofactors_28 : decode cX3_findCofactors 28 = .ok (.iload 4, 2) := by decide +kernel
theorem dX3_findCofactors_30 : decode cX3_findCofactors 30 = .ok (.iconst 1, 1) := by decide +kernel
theorem dX3_findCofactors_31 : decode cX3_findCofactors 31 = .ok (.invokestatic 54, 3) := by decide +kernel
theorem dX3_findCofactors_34 : decode cX3_findCofactors 34 = .ok (.istore 5, 2) := by decide +kernel
theorem dX3_findCofactors_36 : decode cX3_findCofactors 36 = .ok (.iload 4, 2) := by decide +kernel
theorem dX3_findCofactors_38 : decode cX3_findCofactors 38 = .ok (.iconst 2, 1) := by decide +kernel
theorem dX3_findCofactors_39 : decode cX3_findCofactors 39 = .ok (.invokestatic 54, 3) := by decide +kernel
theorem dX3_findCofactors_42 : decode cX3_findCofactors 42 = .ok (.istore 6, 2) := by decide +kernel
theorem dX3_findCofactors_44 : decode cX3_findCofactors 44 = .ok (.aload_n 0, 1) := by decide +kernel
theorem dX3_findCofactors_45 : decode cX3_findCofactors 45 = .ok (.getfield 16, 3) := by decide +kernel
theorem dX3_findCofactors_48 : decode cX3_findCofactors 48 = .ok (.iload_n 1, 1) := by decide +kernel
theorem dX3_findCofactors_49 : decode cX3_findCofactors 49 = .ok (.aaload, 1) := by decide +kernel
theorem dX3_findCofactors_50 : decode cX3_findCofactors 50 = .ok (.iload 4, 2) := by decide +kernel
theorem dX3_findCofactors_52 : decode cX3_findCofactors 52 = .ok (.aload_n 0, 1) := by decide +kernel
theorem dX3_findCofactors_53 : decode cX3_findCofactors 53 = .ok (.getfield 11, 3) := by decide +kernel
theorem dX3_findCofactors_56 : decode cX3_findCofactors 56 = .ok (.iload_n 2, 1) := by decide +kernel
theorem dX3_findCofactors_57 : decode cX3_findCofactors 57 = .ok (.aaload, 1) := by decide +kernel
theorem dX3_findCofactors_58 : decode cX3_findCofactors 58 = .ok (.iload 5, 2) := by decide +kernel
theorem dX3_findCofactors_60 : decode cX3_findCofactors 60 = .ok (.laload, 1) := by decide +kernel
theorem dX3_findCofactors_61 : decode cX3_findCofactors 61 = .ok (.aload_n 0, 1) := by decide +kernel
theorem dX3_findCofactors_62 : decode cX3_findCofactors 62 = .ok (.getfield 11, 3) := by decide +kernel
theorem dX3_findCofactors_65 : decode cX3_findCofactors 65 = .ok (.iload_n 3, 1) := by decide +kernel
theorem dX3_findCofactors_66 : decode cX3_findCofactors 66 = .ok (.aaload, 1) := by decide +kernel
theorem dX3_findCofactors_67 : decode cX3_findCofactors 67 = .ok (.iload 6, 2) := by decide +kernel
theorem dX3_findCofactors_69 : decode cX3_findCofactors 69 = .ok (.laload, 1) := by decide +kernel
theorem dX3_findCofactors_70 : decode cX3_findCofactors 70 = .ok (.lmul, 1) := by decide +kernel
theorem dX3_findCofactors_71 : decode cX3_findCofactors 71 = .ok (.aload_n 0, 1) := by decide +kernel
theorem dX3_findCofactors_72 : decode cX3_findCofactors 72 = .ok (.getfield 11, 3) := by decide +kernel
theorem dX3_findCofactors_75 : decode cX3_findCofactors 75 = .ok (.iload_n 2, 1) := by decide +kernel
theorem dX3_findCofactors_76 : decode cX3_findCofactors 76 = .ok (.aaload, 1) := by decide +kernel
theorem dX3_findCofactors_77 : decode cX3_findCofactors 77 = .ok (.iload 6, 2) := by decide +kernel
theorem dX3_findCofactors_79 : decode cX3_findCofactors 79 = .ok (.laload, 1) := by decide +kernel
theorem dX3_findCofactors_80 : decode cX3_findCofactors 80 = .ok (.aload_n 0, 1) := by decide +kernel
theorem dX3_findCofactors_81 : decode cX3_findCofactors 81 = .ok (.getfield 11, 3) := by decide +kernel
theorem dX3_findCofactors_84 : decode cX3_findCofactors 84 = .ok (.iload_n 3, 1) := by decide +kernel
theorem dX3_findCofactors_85 : decode cX3_findCofactors 85 = .ok (.aaload, 1) := by decide +kernel
theorem dX3_findCofactors_86 : decode cX3_findCofactors 86 = .ok (.iload 5, 2) := by decide +kernel
theorem dX3_findCofactors_88 : decode cX3_findCofactors 88 = .ok (.laload, 1) := by decide +kernel
theorem dX3_findCofactors_89 : decode cX3_findCofactors 89 = .ok (.lmul, 1) := by decide +kernel
theorem dX3_findCofactors_90 : decode cX3_findCofactors 90 = .ok (.lsub, 1) := by decide +kernel
theorem dX3_findCofactors_91 : decode cX3_findCofactors 91 = .ok (.lastore, 1) := by decide +kernel
theorem dX3_findCofactors_92 : decode cX3_findCofactors 92 = .ok (.iinc 4 1, 3) := by decide +kernel
theorem dX3_findCofactors_95 : decode cX3_findCofactors 95 = .ok (.goto (-73), 3) := by decide +kernel
theorem dX3_findCofactors_98 : decode cX3_findCofactors 98 = .ok (.iinc 1 1, 3) := by decide +kernel
theorem dX3_findCofactors_101 : decode cX3_findCofactors 101 = .ok (.goto (-99), 3) := by decide +kernel
theorem dX3_findCofactors_104 : decode cX3_findCofactors 104 = .ok (.return_, 1) := by decide +kernel
theorem dX3_spans_0 : decode cX3_spans 0 = .ok (.aload_n 0, 1) := by decide +kernel
theorem dX3_spans_1 : decode cX3_spans 1 = .ok (.getfield 50, 3) := by decide +kernel
theorem dX3_spans_4 : decode cX3_spans 4 = .ok (.lconst 0, 1) := by decide +kernel
theorem dX3_spans_5 : decode cX3_spans 5 = .ok (.lcmp, 1) := by decide +kernel
theorem dX3_spans_6 : decode cX3_spans 6 = .ok (.ifCond .le 7, 3) := by decide +kernel
theorem dX3_spans_9 : decode cX3_spans 9 = .ok (.iconst 1, 1) := by decide +kernel
theorem dX3_spans_10 : decode cX3_spans 10 = .ok (.goto 4, 3) := by decide +kernel
theorem dX3_spans_13 : decode cX3_spans 13 = .ok (.iconst 0, 1) := by decide +kernel
theorem dX3_spans_14 : decode cX3_spans 14 = .ok (.ireturn, 1) := by decide +kernel
theorem dX3_aim_0 : decode cX3_aim 0 = .ok (.iconst 0, 1) := by decide +kernel
theorem dX3_aim_1 : decode cX3_aim 1 = .ok (.istore 7, 2) := by decide +kernel
theorem dX3_aim_3 : decode cX3_aim 3 = .ok (.iload 7, 2) := by decide +kernel
theorem dX3_aim_5 : decode cX3_aim 5 = .ok (.iconst 3, 1) := by decide +kernel
theorem dX3_aim_6 : decode cX3_aim 6 = .ok (.if_icmp .ge 52, 3) := by decide +kernel
theorem dX3_aim_9 : decode cX3_aim 9 = .ok (.aload_n 0, 1) := by decide +kernel
theorem dX3_aim_10 : decode cX3_aim 10 = .ok (.getfield 19, 3) := by decide +kernel
theorem dX3_aim_13 : decode cX3_aim 13 = .ok (.iload 7, 2) := by decide +kernel
theorem dX3_aim_15 : decode cX3_aim 15 = .ok (.aload_n 0, 1) := by decide +kernel
theorem dX3_aim_16 : decode cX3_aim 16 = .ok (.getfield 16, 3) := by decide +kernel
theorem dX3_aim_19 : decode cX3_aim 19 = .ok (.iload 7, 2) := by decide +kernel
theorem dX3_aim_21 : decode cX3_aim 21 = .ok (.aaload, 1) := by decide +kernel
theorem dX3_aim_22 : decode cX3_aim 22 = .ok (.iconst 0, 1) := by decide +kernel
theorem dX3_aim_23 : decode cX3_aim 23 = .ok (.laload, 1) := by decide +kernel
theorem dX3_aim_24 : decode cX3_aim 24 = .ok (.lload_n 1, 1) := by decide +kernel
theorem dX3_aim_25 : decode cX3_aim 25 = .ok (.lmul, 1) := by decide +kernel
theorem dX3_aim_26 : decode cX3_aim 26 = .ok (.aload_n 0, 1) := by decide +kernel
theorem dX3_aim_27 : decode cX3_aim 27 = .ok (.getfield 16, 3) := by decide +kernel
theorem dX3_aim_30 : decode cX3_aim 30 = .ok (.iload 7, 2) := by decide +kernel
theorem dX3_aim_32 : decode cX3_aim 32 = .ok (.aaload, 1) := by decide +kernel
theorem dX3_aim_33 : decode cX3_aim 33 = .ok (.iconst 1, 1) := by decide +kernel
theorem dX3_aim_34 : decode cX3_aim 34 = .ok (.laload, 1) := by decide +kernel
theorem dX3_aim_35 : decode cX3_aim 35 = .ok (.lload_n 3, 1) := by decide +kernel
theorem dX3_aim_36 : decode cX3_aim 36 = .ok (.lmul, 1) := by decide +kernel
theorem dX3_aim_37 : decode cX3_aim 37 = .ok (.ladd, 1) := by decide +kernel
theorem dX3_aim_38 : decode cX3_aim 38 = .ok (.aload_n 0, 1) := by decide +kernel
theorem dX3_aim_39 : decode cX3_aim 39 = .ok (.getfield 16, 3) := by decide +kernel
theorem dX3_aim_42 : decode cX3_aim 42 = .ok (.iload 7, 2) := by decide +kernel
theorem dX3_aim_44 : decode cX3_aim 44 = .ok (.aaload, 1) := by decide +kernel
theorem dX3_aim_45 : decode cX3_aim 45 = .ok (.iconst 2, 1) := by decide +kernel
theorem dX3_aim_46 : decode cX3_aim 46 = .ok (.laload, 1) := by decide +kernel
theorem dX3_aim_47 : decode cX3_aim 47 = .ok (.lload 5, 2) := by decide +kernel
theorem dX3_aim_49 : decode cX3_aim 49 = .ok (.lmul, 1) := by decide +kernel
theorem dX3_aim_50 : decode cX3_aim 50 = .ok (.ladd, 1) := by decide +kernel
theorem dX3_aim_51 : decode cX3_aim 51 = .ok (.lastore, 1) := by decide +kernel
theorem dX3_aim_52 : decode cX3_aim 52 = .ok (.iinc 7 1, 3) := by decide +kernel
theorem dX3_aim_55 : decode cX3_aim 55 = .ok (.goto (-52), 3) := by decide +kernel
theorem dX3_aim_58 : decode cX3_aim 58 = .ok (.return_, 1) := by decide +kernel
set_option maxRecDepth 20000 in
theorem ggX3_wishOf_X3_spans : GoodIn wsX3_wishOf wsX3_spans := goodIn_r _ [9, 3, 20, 21, 22, 23] (by decide +kernel) (by decide +kernel)
set_option maxRecDepth 20000 in
theorem gX3_wishOf_X3_spans : GoodIn wsX3_wishOf (wsV RX3 58 RX3 yX3_spans wsX3_spans) := goodIn_app (goodIn_of _ (by decide +kernel)) ggX3_wishOf_X3_spans
set_option maxRecDepth 20000 in
theorem ggX3_wishOf_J9_floorDiv_f86c9 : GoodIn wsX3_wishOf wsJ9_floorDiv_f86c9 := goodIn_r _ [13] (by decide +kernel) (by decide +kernel)
set_option maxRecDepth 20000 in
theorem gX3_wishOf_J9_floorDiv_f86c9 : GoodIn wsX3_wishOf (va_wsS RX3 64 yJ9_floorDiv_f86c9 wsJ9_floorDiv_f86c9) := goodIn_app (goodIn_of _ (by decide +kernel)) ggX3_wishOf_J9_floorDiv_f86c9
theorem dX3_wishOf_0 : decode cX3_wishOf 0 = .ok (.lconst 0, 1) := by decide +kernel
theorem dX3_wishOf_1 : decode cX3_wishOf 1 = .ok (.lstore_n 2, 1) := by decide +kernel
theorem dX3_wishOf_2 : decode cX3_wishOf 2 = .ok (.iconst 0, 1) := by decide +kernel
theorem dX3_wishOf_3 : decode cX3_wishOf 3 = .ok (.istore 4, 2) := by decide +kernel
theorem dX3_wishOf_5 : decode cX3_wishOf 5 = .ok (.iload 4, 2) := by decide +kernel
theorem dX3_wishOf_7 : decode cX3_wishOf 7 = .ok (.iconst 3, 1) := by decide +kernel
theorem dX3_wishOf_8 : decode cX3_wishOf 8 = .ok (.if_icmp .ge 28, 3) := by decide +kernel
theorem dX3_wishOf_11 : decode cX3_wishOf 11 = .ok (.lload_n 2, 1) := by decide +kernel
theorem dX3_wishOf_12 : decode cX3_wishOf 12 = .ok (.aload_n 1, 1) := by decide +kernel
theorem dX3_wishOf_13 : decode cX3_wishOf 13 = .ok (.getfield 39, 3) := by decide +kernel
theorem dX3_wishOf_16 : decode cX3_wishOf 16 = .ok (.iload 4, 2) := by decide +kernel
theorem dX3_wishOf_18 : decode cX3_wishOf 18 = .ok (.iaload, 1) := by decide +kernel
theorem dX3_wishOf_19 : decode cX3_wishOf 19 = .ok (.i2l, 1) := by decide +kernel
theorem dX3_wishOf_20 : decode cX3_wishOf 20 = .ok (.aload_n 0, 1) := by decide +kernel
theorem dX3_wishOf_21 : decode cX3_wishOf 21 = .ok (.getfield 19, 3) := by decide +kernel
theorem dX3_wishOf_24 : decode cX3_wishOf 24 = .ok (.iload 4, 2) := by decide +kernel
theorem dX3_wishOf_26 : decode cX3_wishOf 26 = .ok (.laload, 1) := by decide +kernel
theorem dX3_wishOf_27 : decode cX3_wishOf 27 = .ok (.lmul, 1) := by decide +kernel
theorem dX3_wishOf_28 : decode cX3_wishOf 28 = .ok (.ladd, 1) := by decide +kernel
theorem dX3_wishOf_29 : decode cX3_wishOf 29 = .ok (.lstore_n 2, 1) := by decide +kernel
theorem dX3_wishOf_30 : decode cX3_wishOf 30 = .ok (.iinc 4 1, 3) := by decide +kernel
theorem dX3_wishOf_33 : decode cX3_wishOf 33 = .ok (.goto (-28), 3) := by decide +kernel
theorem dX3_wishOf_36 : decode cX3_wishOf 36 = .ok (.aload_n 0, 1) := by decide +kernel
theorem dX3_wishOf_37 : decode cX3_wishOf 37 = .ok (.invokevirtual 58, 3) := by decide +kernel
theorem dX3_wishOf_40 : decode cX3_wishOf 40 = .ok (.ifCond .eq 27, 3) := by decide +kernel
theorem dX3_wishOf_43 : decode cX3_wishOf 43 = .ok (.aload_n 0, 1) := by decide +kernel
theorem dX3_wishOf_44 : decode cX3_wishOf 44 = .ok (.getfield 50, 3) := by decide +kernel
theorem dX3_wishOf_47 : decode cX3_wishOf 47 = .ok (.ldc2_w 62, 3) := by decide +kernel
theorem dX3_wishOf_50 : decode cX3_wishOf 50 = .ok (.lload_n 2, 1) := by decide +kernel
theorem dX3_wishOf_51 : decode cX3_wishOf 51 = .ok (.lmul, 1) := by decide +kernel
theorem dX3_wishOf_52 : decode cX3_wishOf 52 = .ok (.lsub, 1) := by decide +kernel
theorem dX3_wishOf_53 : decode cX3_wishOf 53 = .ok (.ldc2_w 62, 3) := by decide +kernel
theorem dX3_wishOf_56 : decode cX3_wishOf 56 = .ok (.aload_n 0, 1) := by decide +kernel
theorem dX3_wishOf_57 : decode cX3_wishOf 57 = .ok (.getfield 50, 3) := by decide +kernel
theorem dX3_wishOf_60 : decode cX3_wishOf 60 = .ok (.lmul, 1) := by decide +kernel
theorem dX3_wishOf_61 : decode cX3_wishOf 61 = .ok (.invokestatic 64, 3) := by decide +kernel
theorem dX3_wishOf_64 : decode cX3_wishOf 64 = .ok (.goto 4, 3) := by decide +kernel
theorem dX3_wishOf_67 : decode cX3_wishOf 67 = .ok (.lconst 0, 1) := by decide +kernel
theorem dX3_wishOf_68 : decode cX3_wishOf 68 = .ok (.lreturn, 1) := by decide +kernel
set_option maxRecDepth 20000 in
theorem ggX3_share_X3_spans : GoodIn wsX3_share wsX3_spans := goodIn_r _ [10, 11, 95, 96, 97, 98] (by decide +kernel) (by decide +kernel)
set_option maxRecDepth 20000 in
theorem gX3_share_X3_spans : GoodIn wsX3_share (wsV RX3 58 RX3 yX3_spans wsX3_spans) := goodIn_app (goodIn_of _ (by decide +kernel)) ggX3_share_X3_spans
set_option maxRecDepth 20000 in
theorem ggX3_share_X0_tellNoSpan : GoodIn wsX3_share wsX0_tellNoSpan := goodIn_r _ [16, 17, 18, 19, 20, 21, 78, 79, 80, 81, 82, 83, 84, 85, 86, 87, 88, 89, 90, 91, 92, 93, 94] (by decide +kernel) (by decide +kernel)
set_option maxRecDepth 20000 in
theorem gX3_share_X0_tellNoSpan : GoodIn wsX3_share (wsV RX3 73 RX0 yX0_tellNoSpan wsX0_tellNoSpan) := goodIn_app (goodIn_of _ (by decide +kernel)) ggX3_share_X0_tellNoSpan
set_option maxRecDepth 20000 in
theorem ggX3_share_X0_tellMet : GoodIn wsX3_share wsX0_tellMet := goodIn_r _ [25, 17, 18, 78, 79, 80, 81, 82, 83, 84, 85, 86, 87, 88] (by decide +kernel) (by decide +kernel)
set_option maxRecDepth 20000 in
theorem gX3_share_X0_tellMet : GoodIn wsX3_share (wsV RX3 76 RX0 yX0_tellMet wsX0_tellMet) := goodIn_app (goodIn_of _ (by decide +kernel)) ggX3_share_X0_tellMet
set_option maxRecDepth 20000 in
theorem ggX3_share_X3_aim : GoodIn wsX3_share wsX3_aim := goodIn_r _ [29, 30, 31, 95, 96, 97, 98] (by decide +kernel) (by decide +kernel)
set_option maxRecDepth 20000 in
theorem gX3_share_X3_aim : GoodIn wsX3_share (wsV RX3 82 RX3 yX3_aim wsX3_aim) := goodIn_app (goodIn_of _ (by decide +kernel)) ggX3_share_X3_aim
set_option maxRecDepth 20000 in
theorem ggX3_share_X3_give : GoodIn wsX3_share wsX3_give := goodIn_r _ [35, 2, 3, 36, 37, 38, 39, 40, 41, 9, 42, 30, 11, 43, 6, 7, 8, 10, 44, 45, 46, 47, 48, 49, 50, 51, 52, 53, 54, 55, 56, 57, 58, 59, 60, 61, 62, 63, 64, 65, 66, 67, 68, 69, 70, 71, 72, 15, 73, 17, 74, 75, 76, 77, 18, 78, 79, 80, 81, 82, 83, 84, 85, 86, 87, 88, 89, 90, 91, 92, 93, 94, 95, 96, 97, 98] (by decide +kernel) (by decide +kernel)
set_option maxRecDepth 20000 in
theorem gX3_share_X3_give : GoodIn wsX3_share (wsV RX3 86 RX3 yX3_give wsX3_give) := goodIn_app (goodIn_of _ (by decide +kernel)) ggX3_share_X3_give
theorem dX3_share_0 : decode cX3_share 0 = .ok (.iconst 0, 1) := by decide +kernel
theorem dX3_share_1 : decode cX3_share 1 = .ok (.istore_n 2, 1) := by decide +kernel
theorem dX3_share_2 : decode cX3_share 2 = .ok (.iload_n 2, 1) := by decide +kernel
theorem dX3_share_3 : decode cX3_share 3 = .ok (.aload_n 1, 1) := by decide +kernel
theorem dX3_share_4 : decode cX3_share 4 = .ok (.getfield 23, 3) := by decide +kernel
theorem dX3_share_7 : decode cX3_share 7 = .ok (.if_icmp .ge 19, 3) := by decide +kernel
theorem dX3_share_10 : decode cX3_share 10 = .ok (.aload_n 1, 1) := by decide +kernel
theorem dX3_share_11 : decode cX3_share 11 = .ok (.getfield 29, 3) := by decide +kernel
theorem dX3_share_14 : decode cX3_share 14 = .ok (.iload_n 2, 1) := by decide +kernel
theorem dX3_share_15 : decode cX3_share 15 = .ok (.aaload, 1) := by decide +kernel
theorem dX3_share_16 : decode cX3_share 16 = .ok (.iconst 0, 1) := by decide +kernel
theorem dX3_share_17 : decode cX3_share 17 = .ok (.putfield 70, 3) := by decide +kernel
theorem dX3_share_20 : decode cX3_share 20 = .ok (.iinc 2 1, 3) := by decide +kernel
theorem dX3_share_23 : decode cX3_share 23 = .ok (.goto (-21), 3) := by decide +kernel
theorem dX3_share_26 : decode cX3_share 26 = .ok (.aload_n 0, 1) := by decide +kernel
theorem dX3_share_27 : decode cX3_share 27 = .ok (.invokevirtual 58, 3) := by decide +kernel
theorem dX3_share_30 : decode cX3_share 30 = .ok (.ifCond .ne 8, 3) := by decide +kernel
theorem dX3_share_33 : decode cX3_share 33 = .ok (.aload_n 1, 1) := by decide +kernel
theorem dX3_share_34 : decode cX3_share 34 = .ok (.invokevirtual 73, 3) := by decide +kernel
theorem dX3_share_37 : decode cX3_share 37 = .ok (.return_, 1) := by decide +kernel
theorem dX3_share_38 : decode cX3_share 38 = .ok (.aload_n 1, 1) := by decide +kernel
theorem dX3_share_39 : decode cX3_share 39 = .ok (.invokevirtual 76, 3) := by decide +kernel
theorem dX3_share_42 : decode cX3_share 42 = .ok (.aload_n 0, 1) := by decide +kernel
theorem dX3_share_43 : decode cX3_share 43 = .ok (.aload_n 1, 1) := by decide +kernel
theorem dX3_share_44 : decode cX3_share 44 = .ok (.getfield 79, 3) := by decide +kernel
theorem dX3_share_47 : decode cX3_share 47 = .ok (.iconst 0, 1) := by decide +kernel
theorem dX3_share_48 : decode cX3_share 48 = .ok (.laload, 1) := by decide +kernel
theorem dX3_share_49 : decode cX3_share 49 = .ok (.aload_n 1, 1) := by decide +kernel
theorem dX3_share_50 : decode cX3_share 50 = .ok (.getfield 79, 3) := by decide +kernel
theorem dX3_share_53 : decode cX3_share 53 = .ok (.iconst 1, 1) := by decide +kernel
theorem dX3_share_54 : decode cX3_share 54 = .ok (.laload, 1) := by decide +kernel
theorem dX3_share_55 : decode cX3_share 55 = .ok (.aload_n 1, 1) := by decide +kernel
theorem dX3_share_56 : decode cX3_share 56 = .ok (.getfield 79, 3) := by decide +kernel
theorem dX3_share_59 : decode cX3_share 59 = .ok (.iconst 2, 1) := by decide +kernel
theorem dX3_share_60 : decode cX3_share 60 = .ok (.laload, 1) := by decide +kernel
theorem dX3_share_61 : decode cX3_share 61 = .ok (.invokevirtual 82, 3) := by decide +kernel
theorem dX3_share_64 : decode cX3_share 64 = .ok (.iconst 0, 1) := by decide +kernel
theorem dX3_share_65 : decode cX3_share 65 = .ok (.istore_n 2, 1) := by decide +kernel
theorem dX3_share_66 : decode cX3_share 66 = .ok (.iload_n 2, 1) := by decide +kernel
theorem dX3_share_67 : decode cX3_share 67 = .ok (.aload_n 1, 1) := by decide +kernel
theorem dX3_share_68 : decode cX3_share 68 = .ok (.getfield 23, 3) := by decide +kernel
theorem dX3_share_71 : decode cX3_share 71 = .ok (.if_icmp .ge 27, 3) := by decide +kernel
theorem dX3_share_74 : decode cX3_share 74 = .ok (.aload_n 1, 1) := by decide +kernel
theorem dX3_share_75 : decode cX3_share 75 = .ok (.getfield 29, 3) := by decide +kernel
theorem dX3_share_78 : decode cX3_share 78 = .ok (.iload_n 2, 1) := by decide +kernel
theorem dX3_share_79 : decode cX3_share 79 = .ok (.aaload, 1) := by decide +kernel
theorem dX3_share_80 : decode cX3_share 80 = .ok (.getfield 33, 3) := by decide +kernel
theorem dX3_share_83 : decode cX3_share 83 = .ok (.ifCond .ne 9, 3) := by decide +kernel
theorem dX3_share_86 : decode cX3_share 86 = .ok (.aload_n 0, 1) := by decide +kernel
theorem dX3_share_87 : decode cX3_share 87 = .ok (.aload_n 1, 1) := by decide +kernel
theorem dX3_share_88 : decode cX3_share 88 = .ok (.iload_n 2, 1) := by decide +kernel
theorem dX3_share_89 : decode cX3_share 89 = .ok (.invokevirtual 86, 3) := by decide +kernel
theorem dX3_share_92 : decode cX3_share 92 = .ok (.iinc 2 1, 3) := by decide +kernel
theorem dX3_share_95 : decode cX3_share 95 = .ok (.goto (-29), 3) := by decide +kernel
theorem dX3_share_98 : decode cX3_share 98 = .ok (.return_, 1) := by decide +kernel
set_option maxRecDepth 20000 in
theorem ggX3_give_X3_wishOf : GoodIn wsX3_give wsX3_wishOf := goodIn_r _ [10, 5, 11, 12, 13, 14, 15, 16, 9, 17, 18, 19, 20, 21, 66, 67, 68, 69, 70, 71, 72, 73, 74, 75] (by decide +kernel) (by decide +kernel)
set_option maxRecDepth 20000 in
theorem gX3_give_X3_wishOf : GoodIn wsX3_give (wsV RX3 90 RX3 yX3_wishOf wsX3_wishOf) := goodIn_app (goodIn_of _ (by decide +kernel)) ggX3_give_X3_wishOf
set_option maxRecDepth 20000 in
theorem ggX3_give_X4_allowedByTorque : GoodIn wsX3_give wsX4_allowedByTorque := goodIn_r _ [26, 27, 28, 29, 30, 66, 67, 68, 69, 70, 71] (by decide +kernel) (by decide +kernel)
set_option maxRecDepth 20000 in
theorem gX3_give_X4_allowedByTorque : GoodIn wsX3_give (wsV RX3 94 RX4 yX4_allowedByTorque wsX4_allowedByTorque) := goodIn_app (goodIn_of _ (by decide +kernel)) ggX3_give_X4_allowedByTorque
set_option maxRecDepth 20000 in
theorem ggX3_give_X4_allowedByMomentum : GoodIn wsX3_give wsX4_allowedByMomentum := goodIn_r _ [34, 35, 36, 37, 38, 39, 40, 41, 42, 43, 28, 29, 30, 66, 67, 68, 69, 70, 71] (by decide +kernel) (by decide +kernel)
set_option maxRecDepth 20000 in
theorem gX3_give_X4_allowedByMomentum : GoodIn wsX3_give (wsV RX3 98 RX4 yX4_allowedByMomentum wsX4_allowedByMomentum) := goodIn_app (goodIn_of _ (by decide +kernel)) ggX3_give_X4_allowedByMomentum
set_option maxRecDepth 20000 in
theorem ggX3_give_X0_isMet : GoodIn wsX3_give wsX0_isMet := goodIn_r _ [48, 49, 55, 56, 57, 58, 59, 60, 61, 62, 63, 64, 65] (by decide +kernel) (by decide +kernel)
set_option maxRecDepth 20000 in
theorem gX3_give_X0_isMet : GoodIn wsX3_give (wsV RX3 106 RX0 yX0_isMet wsX0_isMet) := goodIn_app (goodIn_of _ (by decide +kernel)) ggX3_give_X0_isMet
set_option maxRecDepth 20000 in
theorem ggX3_give_X0_tellLimited : GoodIn wsX3_give wsX0_tellLimited := goodIn_r _ [53, 49, 54, 55, 56, 57, 58, 59, 60, 61, 62, 63, 64, 65] (by decide +kernel) (by decide +kernel)
set_option maxRecDepth 20000 in
theorem gX3_give_X0_tellLimited : GoodIn wsX3_give (wsV RX3 109 RX0 yX0_tellLimited wsX0_tellLimited) := goodIn_app (goodIn_of _ (by decide +kernel)) ggX3_give_X0_tellLimited
theorem dX3_give_0 : decode cX3_give 0 = .ok (.aload_n 1, 1) := by decide +kernel
theorem dX3_give_1 : decode cX3_give 1 = .ok (.getfield 29, 3) := by decide +kernel
theorem dX3_give_4 : decode cX3_give 4 = .ok (.iload_n 2, 1) := by decide +kernel
theorem dX3_give_5 : decode cX3_give 5 = .ok (.aaload, 1) := by decide +kernel
theorem dX3_give_6 : decode cX3_give 6 = .ok (.astore_n 3, 1) := by decide +kernel
theorem dX3_give_7 : decode cX3_give 7 = .ok (.aload_n 0, 1) := by decide +kernel
theorem dX3_give_8 : decode cX3_give 8 = .ok (.aload_n 3, 1) := by decide +kernel
theorem dX3_give_9 : decode cX3_give 9 = .ok (.invokevirtual 90, 3) := by decide +kernel
theorem dX3_give_12 : decode cX3_give 12 = .ok (.lstore 4, 2) := by decide +kernel
theorem dX3_give_14 : decode cX3_give 14 = .ok (.aload_n 3, 1) := by decide +kernel
theorem dX3_give_15 : decode cX3_give 15 = .ok (.lload 4, 2) := by decide +kernel
theorem dX3_give_17 : decode cX3_give 17 = .ok (.invokevirtual 94, 3) := by decide +kernel
theorem dX3_give_20 : decode cX3_give 20 = .ok (.lstore 6, 2) := by decide +kernel
theorem dX3_give_22 : decode cX3_give 22 = .ok (.aload_n 3, 1) := by decide +kernel
theorem dX3_give_23 : decode cX3_give 23 = .ok (.lload 6, 2) := by decide +kernel
theorem dX3_give_25 : decode cX3_give 25 = .ok (.invokevirtual 98, 3) := by decide +kernel
theorem dX3_give_28 : decode cX3_give 28 = .ok (.lstore 8, 2) := by decide +kernel
theorem dX3_give_30 : decode cX3_give 30 = .ok (.aload_n 3, 1) := by decide +kernel
theorem dX3_give_31 : decode cX3_give 31 = .ok (.lload 8, 2) := by decide +kernel
theorem dX3_give_33 : decode cX3_give 33 = .ok (.l2i, 1) := by decide +kernel
theorem dX3_give_34 : decode cX3_give 34 = .ok (.putfield 70, 3) := by decide +kernel
theorem dX3_give_37 : decode cX3_give 37 = .ok (.aload_n 3, 1) := by decide +kernel
theorem dX3_give_38 : decode cX3_give 38 = .ok (.dup, 1) := by decide +kernel
theorem dX3_give_39 : decode cX3_give 39 = .ok (.getfield 101, 3) := by decide +kernel
theorem dX3_give_42 : decode cX3_give 42 = .ok (.aload_n 3, 1) := by decide +kernel
theorem dX3_give_43 : decode cX3_give 43 = .ok (.getfield 70, 3) := by decide +kernel
theorem dX3_give_46 : decode cX3_give 46 = .ok (.iadd, 1) := by decide +kernel
theorem dX3_give_47 : decode cX3_give 47 = .ok (.putfield 101, 3) := by decide +kernel
theorem dX3_give_50 : decode cX3_give 50 = .ok (.iconst 0, 1) := by decide +kernel
theorem dX3_give_51 : decode cX3_give 51 = .ok (.istore 10, 2) := by decide +kernel
theorem dX3_give_53 : decode cX3_give 53 = .ok (.iload 10, 2) := by decide +kernel
theorem dX3_give_55 : decode cX3_give 55 = .ok (.iconst 3, 1) := by decide +kernel
theorem dX3_give_56 : decode cX3_give 56 = .ok (.if_icmp .ge 30, 3) := by decide +kernel
theorem dX3_give_59 : decode cX3_give 59 = .ok (.aload_n 1, 1) := by decide +kernel
theorem dX3_give_60 : decode cX3_give 60 = .ok (.getfield 104, 3) := by decide +kernel
theorem dX3_give_63 : decode cX3_give 63 = .ok (.iload 10, 2) := by decide +kernel
theorem dX3_give_65 : decode cX3_give 65 = .ok (.dup2, 1) := by decide +kernel
theorem dX3_give_66 : decode cX3_give 66 = .ok (.laload, 1) := by decide +kernel
theorem dX3_give_67 : decode cX3_give 67 = .ok (.aload_n 3, 1) := by decide +kernel
theorem dX3_give_68 : decode cX3_give 68 = .ok (.getfield 39, 3) := by decide +kernel
theorem dX3_give_71 : decode cX3_give 71 = .ok (.iload 10, 2) := by decide +kernel
theorem dX3_give_73 : decode cX3_give 73 = .ok (.iaload, 1) := by decide +kernel
theorem dX3_give_74 : decode cX3_give 74 = .ok (.i2l, 1) := by decide +kernel
theorem dX3_give_75 : decode cX3_give 75 = .ok (.lload 8, 2) := by decide +kernel
theorem dX3_give_77 : decode cX3_give 77 = .ok (.lmul, 1) := by decide +kernel
theorem dX3_give_78 : decode cX3_give 78 = .ok (.lsub, 1) := by decide +kernel
theorem dX3_give_79 : decode cX3_give 79 = .ok (.lastore, 1) := by decide +kernel
theorem dX3_give_80 : decode cX3_give 80 = .ok (.iinc 10 1, 3) := by decide +kernel
theorem dX3_give_83 : decode cX3_give 83 = .ok (.goto (-30), 3) := by decide +kernel
theorem dX3_give_86 : decode cX3_give 86 = .ok (.lload 8, 2) := by decide +kernel
theorem dX3_give_88 : decode cX3_give 88 = .ok (.lload 4, 2) := by decide +kernel
theorem dX3_give_90 : decode cX3_give 90 = .ok (.lcmp, 1) := by decide +kernel
theorem dX3_give_91 : decode cX3_give 91 = .ok (.ifCond .eq 28, 3) := by decide +kernel
theorem dX3_give_94 : decode cX3_give 94 = .ok (.aload_n 1, 1) := by decide +kernel
theorem dX3_give_95 : decode cX3_give 95 = .ok (.invokevirtual 106, 3) := by decide +kernel
theorem dX3_give_98 : decode cX3_give 98 = .ok (.ifCond .eq 21, 3) := by decide +kernel
theorem dX3_give_101 : decode cX3_give 101 = .ok (.aload_n 1, 1) := by decide +kernel
theorem dX3_give_102 : decode cX3_give 102 = .ok (.iload_n 2, 1) := by decide +kernel
theorem dX3_give_103 : decode cX3_give 103 = .ok (.lload 8, 2) := by decide +kernel
theorem dX3_give_105 : decode cX3_give 105 = .ok (.lload 6, 2) := by decide +kernel
theorem dX3_give_107 : decode cX3_give 107 = .ok (.lcmp, 1) := by decide +kernel
theorem dX3_give_108 : decode cX3_give 108 = .ok (.ifCond .ne 7, 3) := by decide +kernel
theorem dX3_give_111 : decode cX3_give 111 = .ok (.iconst 1, 1) := by decide +kernel
theorem dX3_give_112 : decode cX3_give 112 = .ok (.goto 4, 3) := by decide +kernel
theorem dX3_give_115 : decode cX3_give 115 = .ok (.iconst 0, 1) := by decide +kernel
theorem dX3_give_116 : decode cX3_give 116 = .ok (.invokevirtual 109, 3) := by decide +kernel
theorem dX3_give_119 : decode cX3_give 119 = .ok (.return_, 1) := by decide +kernel
theorem dX4_init_0 : decode cX4_init 0 = .ok (.aload_n 0, 1) := by decide +kernel
theorem dX4_init_1 : decode cX4_init 1 = .ok (.invokespecial 3, 3) := by decide +kernel
theorem dX4_init_4 : decode cX4_init 4 = .ok (.aload_n 0, 1) := by decide +kernel
theorem dX4_init_5 : decode cX4_init 5 = .ok (.iconst 3, 1) := by decide +kernel
theorem dX4_init_6 : decode cX4_init 6 = .ok (.newarray .int, 2) := by decide +kernel
theorem dX4_init_8 : decode cX4_init 8 = .ok (.putfield 9, 3) := by decide +kernel
theorem dX4_init_11 : decode cX4_init 11 = .ok (.return_, 1) := by decide +kernel
theorem dX4_start_0 : decode cX4_start 0 = .ok (.aload_n 0, 1) := by decide +kernel
theorem dX4_start_1 : decode cX4_start 1 = .ok (.getfield 9, 3) := by decide +kernel
theorem dX4_start_4 : decode cX4_start 4 = .ok (.iconst 0, 1) := by decide +kernel
theorem dX4_start_5 : decode cX4_start 5 = .ok (.iload_n 1, 1) := by decide +kernel
theorem dX4_start_6 : decode cX4_start 6 = .ok (.iastore, 1) := by decide +kernel
theorem dX4_start_7 : decode cX4_start 7 = .ok (.aload_n 0, 1) := by decide +kernel
theorem dX4_start_8 : decode cX4_start 8 = .ok (.getfield 9, 3) := by decide +kernel
theorem dX4_start_11 : decode cX4_start 11 = .ok (.iconst 1, 1) := by decide +kernel
theorem dX4_start_12 : decode cX4_start 12 = .ok (.iload_n 2, 1) := by decide +kernel
theorem dX4_start_13 : decode cX4_start 13 = .ok (.iastore, 1) := by decide +kernel
theorem dX4_start_14 : decode cX4_start 14 = .ok (.aload_n 0, 1) := by decide +kernel
theorem dX4_start_15 : decode cX4_start 15 = .ok (.getfield 9, 3) := by decide +kernel
theorem dX4_start_18 : decode cX4_start 18 = .ok (.iconst 2, 1) := by decide +kernel
theorem dX4_start_19 : decode cX4_start 19 = .ok (.iload_n 3, 1) := by decide +kernel
theorem dX4_start_20 : decode cX4_start 20 = .ok (.iastore, 1) := by decide +kernel
theorem dX4_start_21 : decode cX4_start 21 = .ok (.aload_n 0, 1) := by decide +kernel
theorem dX4_start_22 : decode cX4_start 22 = .ok (.iconst 0, 1) := by decide +kernel
theorem dX4_start_23 : decode cX4_start 23 = .ok (.putfield 15, 3) := by decide +kernel
theorem dX4_start_26 : decode cX4_start 26 = .ok (.aload_n 0, 1) := by decide +kernel
theorem dX4_start_27 : decode cX4_start 27 = .ok (.iload 4, 2) := by decide +kernel
theorem dX4_start_29 : decode cX4_start 29 = .ok (.putfield 19, 3) := by decide +kernel
theorem dX4_start_32 : decode cX4_start 32 = .ok (.aload_n 0, 1) := by decide +kernel
theorem dX4_start_33 : decode cX4_start 33 = .ok (.iload 5, 2) := by decide +kernel
theorem dX4_start_35 : decode cX4_start 35 = .ok (.putfield 22, 3) := by decide +kernel
theorem dX4_start_38 : decode cX4_start 38 = .ok (.aload_n 0, 1) := by decide +kernel
theorem dX4_start_39 : decode cX4_start 39 = .ok (.iconst 0, 1) := by decide +kernel
theorem dX4_start_40 : decode cX4_start 40 = .ok (.putfield 25, 3) := by decide +kernel
theorem dX4_start_43 : decode cX4_start 43 = .ok (.aload_n 0, 1) := by decide +kernel
theorem dX4_start_44 : decode cX4_start 44 = .ok (.iconst 0, 1) := by decide +kernel
theorem dX4_start_45 : decode cX4_start 45 = .ok (.putfield 29, 3) := by decide +kernel
theorem dX4_start_48 : decode cX4_start 48 = .ok (.return_, 1) := by decide +kernel
theorem dX4_become_0 : decode cX4_become 0 = .ok (.aload_n 1, 1) := by decide +kernel
theorem dX4_become_1 : decode cX4_become 1 = .ok (.getfield 9, 3) := by decide +kernel
theorem dX4_become_4 : decode cX4_become 4 = .ok (.iconst 0, 1) := by decide +kernel
theorem dX4_become_5 : decode cX4_become 5 = .ok (.aload_n 0, 1) := by decide +kernel
theorem dX4_become_6 : decode cX4_become 6 = .ok (.getfield 9, 3) := by decide +kernel
theorem dX4_become_9 : decode cX4_become 9 = .ok (.iconst 0, 1) := by decide +kernel
theorem dX4_become_10 : decode cX4_become 10 = .ok (.iconst 3, 1) := by decide +kernel
theorem dX4_become_11 : decode cX4_become 11 = .ok (.invokestatic 32, 3) := by decide +kernel
theorem dX4_become_14 : decode cX4_become 14 = .ok (.aload_n 0, 1) := by decide +kernel
theorem dX4_become_15 : decode cX4_become 15 = .ok (.aload_n 1, 1) := by decide +kernel
theorem dX4_become_16 : decode cX4_become 16 = .ok (.getfield 15, 3) := by decide +kernel
theorem dX4_become_19 : decode cX4_become 19 = .ok (.putfield 15, 3) := by decide +kernel
theorem dX4_become_22 : decode cX4_become 22 = .ok (.aload_n 0, 1) := by decide +kernel
theorem dX4_become_23 : decode cX4_become 23 = .ok (.aload_n 1, 1) := by decide +kernel
theorem dX4_become_24 : decode cX4_become 24 = .ok (.getfield 19, 3) := by decide +kernel
theorem dX4_become_27 : decode cX4_become 27 = .ok (.putfield 19, 3) := by decide +kernel
theorem dX4_become_30 : decode cX4_become 30 = .ok (.aload_n 0, 1) := by decide +kernel
theorem dX4_become_31 : decode cX4_become 31 = .ok (.aload_n 1, 1) := by decide +kernel
theorem dX4_become_32 : decode cX4_become 32 = .ok (.getfield 22, 3) := by decide +kernel
theorem dX4_become_35 : decode cX4_become 35 = .ok (.putfield 22, 3) := by decide +kernel
theorem dX4_become_38 : decode cX4_become 38 = .ok (.aload_n 0, 1) := by decide +kernel
theorem dX4_become_39 : decode cX4_become 39 = .ok (.aload_n 1, 1) := by decide +kernel
theorem dX4_become_40 : decode cX4_become 40 = .ok (.getfield 25, 3) := by decide +kernel
theorem dX4_become_43 : decode cX4_become 43 = .ok (.putfield 25, 3) := by decide +kernel
theorem dX4_become_46 : decode cX4_become 46 = .ok (.aload_n 0, 1) := by decide +kernel
theorem dX4_become_47 : decode cX4_become 47 = .ok (.aload_n 1, 1) := by decide +kernel
theorem dX4_become_48 : decode cX4_become 48 = .ok (.getfield 29, 3) := by decide +kernel
theorem dX4_become_51 : decode cX4_become 51 = .ok (.putfield 29, 3) := by decide +kernel
theorem dX4_become_54 : decode cX4_become 54 = .ok (.return_, 1) := by decide +kernel
theorem dX4_number_0 : decode cX4_number 0 = .ok (.iload_n 1, 1) := by decide +kernel
theorem dX4_number_1 : decode cX4_number 1 = .ok (.tableswitch 78 0 6 #[43, 43, 43, 50, 55, 60, 65], 43) := by decide +kernel
theorem dX4_number_44 : decode cX4_number 44 = .ok (.aload_n 0, 1) := by decide +kernel
theorem dX4_number_45 : decode cX4_number 45 = .ok (.getfield 9, 3) := by decide +kernel
theorem dX4_number_48 : decode cX4_number 48 = .ok (.iload_n 1, 1) := by decide +kernel
theorem dX4_number_49 : decode cX4_number 49 = .ok (.iaload, 1) := by decide +kernel
theorem dX4_number_50 : decode cX4_number 50 = .ok (.ireturn, 1) := by decide +kernel
theorem dX4_number_51 : decode cX4_number 51 = .ok (.aload_n 0, 1) := by decide +kernel
theorem dX4_number_52 : decode cX4_number 52 = .ok (.getfield 15, 3) := by decide +kernel
theorem dX4_number_55 : decode cX4_number 55 = .ok (.ireturn, 1) := by decide +kernel
theorem dX4_number_56 : decode cX4_number 56 = .ok (.aload_n 0, 1) := by decide +kernel
theorem dX4_number_57 : decode cX4_number 57 = .ok (.getfield 19, 3) := by decide +kernel
theorem dX4_number_60 : decode cX4_number 60 = .ok (.ireturn, 1) := by decide +kernel
theorem dX4_number_61 : decode cX4_number 61 = .ok (.aload_n 0, 1) := by decide +kernel
theorem dX4_number_62 : decode cX4_number 62 = .ok (.getfield 22, 3) := by decide +kernel
theorem dX4_number_65 : decode cX4_number 65 = .ok (.ireturn, 1) := by decide +kernel
theorem dX4_number_66 : decode cX4_number 66 = .ok (.aload_n 0, 1) := by decide +kernel
theorem dX4_number_67 : decode cX4_number 67 = .ok (.getfield 25, 3) := by decide +kernel
theorem dX4_number_70 : decode cX4_number 70 = .ok (.ifCond .eq 7, 3) := by decide +kernel
theorem dX4_number_73 : decode cX4_number 73 = .ok (.iconst 1, 1) := by decide +kernel
theorem dX4_number_74 : decode cX4_number 74 = .ok (.goto 4, 3) := by decide +kernel
theorem dX4_number_77 : decode cX4_number 77 = .ok (.iconst 0, 1) := by decide +kernel
theorem dX4_number_78 : decode cX4_number 78 = .ok (.ireturn, 1) := by decide +kernel
theorem dX4_number_79 : decode cX4_number 79 = .ok (.aload_n 0, 1) := by decide +kernel
theorem dX4_number_80 : decode cX4_number 80 = .ok (.getfield 29, 3) := by decide +kernel
theorem dX4_number_83 : decode cX4_number 83 = .ok (.ireturn, 1) := by decide +kernel
set_option maxRecDepth 20000 in
theorem ggX4_allowedByTorque_X5_limited : GoodIn wsX4_allowedByTorque wsX5_limited := goodIn_r _ [4] (by decide +kernel) (by decide +kernel)
set_option maxRecDepth 20000 in
theorem gX4_allowedByTorque_X5_limited_n38 : GoodIn wsX4_allowedByTorque (wsX5_limited) := ggX4_allowedByTorque_X5_limited
theorem dX4_allowedByTorque_0 : decode cX4_allowedByTorque 0 = .ok (.lload_n 1, 1) := by decide +kernel
theorem dX4_allowedByTorque_1 : decode cX4_allowedByTorque 1 = .ok (.aload_n 0, 1) := by decide +kernel
theorem dX4_allowedByTorque_2 : decode cX4_allowedByTorque 2 = .ok (.getfield 22, 3) := by decide +kernel
theorem dX4_allowedByTorque_5 : decode cX4_allowedByTorque 5 = .ok (.ineg, 1) := by decide +kernel
theorem dX4_allowedByTorque_6 : decode cX4_allowedByTorque 6 = .ok (.i2l, 1) := by decide +kernel
theorem dX4_allowedByTorque_7 : decode cX4_allowedByTorque 7 = .ok (.aload_n 0, 1) := by decide +kernel
theorem dX4_allowedByTorque_8 : decode cX4_allowedByTorque 8 = .ok (.getfield 22, 3) := by decide +kernel
theorem dX4_allowedByTorque_11 : decode cX4_allowedByTorque 11 = .ok (.i2l, 1) := by decide +kernel
theorem dX4_allowedByTorque_12 : decode cX4_allowedByTorque 12 = .ok (.invokestatic 38, 3) := by decide +kernel
theorem dX4_allowedByTorque_15 : decode cX4_allowedByTorque 15 = .ok (.lreturn, 1) := by decide +kernel
set_option maxRecDepth 20000 in
theorem ggX4_allowedByMomentum_X5_limited : GoodIn wsX4_allowedByMomentum wsX5_limited := goodIn_r _ [12] (by decide +kernel) (by decide +kernel)
set_option maxRecDepth 20000 in
theorem gX4_allowedByMomentum_X5_limited_n38 : GoodIn wsX4_allowedByMomentum (wsX5_limited) := ggX4_allowedByMomentum_X5_limited
theorem dX4_allowedByMomentum_0 : decode cX4_allowedByMomentum 0 = .ok (.iconst 0, 1) := by decide +kernel
theorem dX4_allowedByMomentum_1 : decode cX4_allowedByMomentum 1 = .ok (.aload_n 0, 1) := by decide +kernel
theorem dX4_allowedByMomentum_2 : decode cX4_allowedByMomentum 2 = .ok (.getfield 19, 3) := by decide +kernel
theorem dX4_allowedByMomentum_5 : decode cX4_allowedByMomentum 5 = .ok (.ineg, 1) := by decide +kernel
theorem dX4_allowedByMomentum_6 : decode cX4_allowedByMomentum 6 = .ok (.aload_n 0, 1) := by decide +kernel
theorem dX4_allowedByMomentum_7 : decode cX4_allowedByMomentum 7 = .ok (.getfield 15, 3) := by decide +kernel
theorem dX4_allowedByMomentum_10 : decode cX4_allowedByMomentum 10 = .ok (.isub, 1) := by decide +kernel
theorem dX4_allowedByMomentum_11 : decode cX4_allowedByMomentum 11 = .ok (.invokestatic 42, 3) := by decide +kernel
theorem dX4_allowedByMomentum_14 : decode cX4_allowedByMomentum 14 = .ok (.i2l, 1) := by decide +kernel
theorem dX4_allowedByMomentum_15 : decode cX4_allowedByMomentum 15 = .ok (.lstore_n 3, 1) := by decide +kernel
theorem dX4_allowedByMomentum_16 : decode cX4_allowedByMomentum 16 = .ok (.iconst 0, 1) := by decide +kernel
theorem dX4_allowedByMomentum_17 : decode cX4_allowedByMomentum 17 = .ok (.aload_n 0, 1) := by decide +kernel
theorem dX4_allowedByMomentum_18 : decode cX4_allowedByMomentum 18 = .ok (.getfield 19, 3) := by decide +kernel
theorem dX4_allowedByMomentum_21 : decode cX4_allowedByMomentum 21 = .ok (.aload_n 0, 1) := by decide +kernel
theorem dX4_allowedByMomentum_22 : decode cX4_allowedByMomentum 22 = .ok (.getfield 15, 3) := by decide +kernel
theorem dX4_allowedByMomentum_25 : decode cX4_allowedByMomentum 25 = .ok (.isub, 1) := by decide +kernel
theorem dX4_allowedByMomentum_26 : decode cX4_allowedByMomentum 26 = .ok (.invokestatic 48, 3) := by decide +kernel
theorem dX4_allowedByMomentum_29 : decode cX4_allowedByMomentum 29 = .ok (.i2l, 1) := by decide +kernel
theorem dX4_allowedByMomentum_30 : decode cX4_allowedByMomentum 30 = .ok (.lstore 5, 2) := by decide +kernel
theorem dX4_allowedByMomentum_32 : decode cX4_allowedByMomentum 32 = .ok (.lload_n 1, 1) := by decide +kernel
theorem dX4_allowedByMomentum_33 : decode cX4_allowedByMomentum 33 = .ok (.lload_n 3, 1) := by decide +kernel
theorem dX4_allowedByMomentum_34 : decode cX4_allowedByMomentum 34 = .ok (.lload 5, 2) := by decide +kernel
theorem dX4_allowedByMomentum_36 : decode cX4_allowedByMomentum 36 = .ok (.invokestatic 38, 3) := by decide +kernel
theorem dX4_allowedByMomentum_39 : decode cX4_allowedByMomentum 39 = .ok (.lreturn, 1) := by decide +kernel
theorem dX4_fullPart_0 : decode cX4_fullPart 0 = .ok (.aload_n 0, 1) := by decide +kernel
theorem dX4_fullPart_1 : decode cX4_fullPart 1 = .ok (.getfield 19, 3) := by decide +kernel
theorem dX4_fullPart_4 : decode cX4_fullPart 4 = .ok (.ifCond .le 11, 3) := by decide +kernel
theorem dX4_fullPart_7 : decode cX4_fullPart 7 = .ok (.aload_n 0, 1) := by decide +kernel
theorem dX4_fullPart_8 : decode cX4_fullPart 8 = .ok (.getfield 19, 3) := by decide +kernel
theorem dX4_fullPart_11 : decode cX4_fullPart 11 = .ok (.i2f, 1) := by decide +kernel
theorem dX4_fullPart_12 : decode cX4_fullPart 12 = .ok (.goto 4, 3) := by decide +kernel
theorem dX4_fullPart_15 : decode cX4_fullPart 15 = .ok (.fconst 1, 1) := by decide +kernel
theorem dX4_fullPart_16 : decode cX4_fullPart 16 = .ok (.fstore_n 1, 1) := by decide +kernel
theorem dX4_fullPart_17 : decode cX4_fullPart 17 = .ok (.aload_n 0, 1) := by decide +kernel
theorem dX4_fullPart_18 : decode cX4_fullPart 18 = .ok (.getfield 15, 3) := by decide +kernel
theorem dX4_fullPart_21 : decode cX4_fullPart 21 = .ok (.invokestatic 51, 3) := by decide +kernel
theorem dX4_fullPart_24 : decode cX4_fullPart 24 = .ok (.i2f, 1) := by decide +kernel
theorem dX4_fullPart_25 : decode cX4_fullPart 25 = .ok (.fload_n 1, 1) := by decide +kernel
theorem dX4_fullPart_26 : decode cX4_fullPart 26 = .ok (.fdiv, 1) := by decide +kernel
theorem dX4_fullPart_27 : decode cX4_fullPart 27 = .ok (.freturn, 1) := by decide +kernel
set_option maxRecDepth 20000 in
theorem ggX5_init_X0_init : GoodIn wsX5_init wsX0_init := goodIn_r _ [23, 24, 2, 3, 25, 26, 27, 28, 29, 30, 31, 32, 33, 34, 35, 36, 37, 38, 39, 40, 41, 42, 43, 63, 64, 65, 66, 67, 68, 69, 70, 71, 72, 73, 87, 88, 89, 90, 91, 92] (by decide +kernel) (by decide +kernel)
set_option maxRecDepth 20000 in
theorem gX5_init_X0_init : GoodIn wsX5_init (wsX0_init) := ggX5_init_X0_init
set_option maxRecDepth 20000 in
theorem ggX5_init_X3_init : GoodIn wsX5_init wsX3_init := goodIn_r _ [45, 46, 2, 3, 47, 29, 48, 49, 50, 79, 80, 81, 82] (by decide +kernel) (by decide +kernel)
set_option maxRecDepth 20000 in
theorem gX5_init_X3_init_n21 : GoodIn wsX5_init (wsX3_init) := ggX5_init_X3_init
set_option maxRecDepth 20000 in
theorem ggX5_init_X2_init : GoodIn wsX5_init wsX2_init := goodIn_r _ [52, 53, 2, 3, 29, 54, 55, 83, 84] (by decide +kernel) (by decide +kernel)
set_option maxRecDepth 20000 in
theorem gX5_init_X2_init_n28 : GoodIn wsX5_init (wsX2_init) := ggX5_init_X2_init
set_option maxRecDepth 20000 in
theorem ggX5_init_X1_init : GoodIn wsX5_init wsX1_init := goodIn_r _ [58, 59, 2, 3, 60, 61, 5, 6, 62, 22, 23, 24, 25, 26, 27, 28, 29, 30, 31, 32, 33, 34, 35, 36, 37, 38, 39, 40, 41, 42, 43, 85, 86, 63, 64, 65, 66, 67, 68, 69, 70, 71, 72, 73, 87, 88, 89, 90, 91, 92] (by decide +kernel) (by decide +kernel)
set_option maxRecDepth 20000 in
theorem gX5_init_X1_init : GoodIn wsX5_init (wsX1_init) := ggX5_init_X1_init
theorem dX5_init_0 : decode cX5_init 0 = .ok (.aload_n 0, 1) := by decide +kernel
theorem dX5_init_1 : decode cX5_init 1 = .ok (.invokespecial 1, 3) := by decide +kernel
theorem dX5_init_4 : decode cX5_init 4 = .ok (.aload_n 0, 1) := by decide +kernel
theorem dX5_init_5 : decode cX5_init 5 = .ok (.new 7, 3) := by decide +kernel
theorem dX5_init_8 : decode cX5_init 8 = .ok (.dup, 1) := by decide +kernel
theorem dX5_init_9 : decode cX5_init 9 = .ok (.invokespecial 9, 3) := by decide +kernel
theorem dX5_init_12 : decode cX5_init 12 = .ok (.putfield 10, 3) := by decide +kernel
theorem dX5_init_15 : decode cX5_init 15 = .ok (.aload_n 0, 1) := by decide +kernel
theorem dX5_init_16 : decode cX5_init 16 = .ok (.new 7, 3) := by decide +kernel
theorem dX5_init_19 : decode cX5_init 19 = .ok (.dup, 1) := by decide +kernel
theorem dX5_init_20 : decode cX5_init 20 = .ok (.invokespecial 9, 3) := by decide +kernel
theorem dX5_init_23 : decode cX5_init 23 = .ok (.putfield 16, 3) := by decide +kernel
theorem dX5_init_26 : decode cX5_init 26 = .ok (.aload_n 0, 1) := by decide +kernel
theorem dX5_init_27 : decode cX5_init 27 = .ok (.new 19, 3) := by decide +kernel
theorem dX5_init_30 : decode cX5_init 30 = .ok (.dup, 1) := by decide +kernel
theorem dX5_init_31 : decode cX5_init 31 = .ok (.invokespecial 21, 3) := by decide +kernel
theorem dX5_init_34 : decode cX5_init 34 = .ok (.putfield 22, 3) := by decide +kernel
theorem dX5_init_37 : decode cX5_init 37 = .ok (.aload_n 0, 1) := by decide +kernel
theorem dX5_init_38 : decode cX5_init 38 = .ok (.new 26, 3) := by decide +kernel
theorem dX5_init_41 : decode cX5_init 41 = .ok (.dup, 1) := by decide +kernel
theorem dX5_init_42 : decode cX5_init 42 = .ok (.invokespecial 28, 3) := by decide +kernel
theorem dX5_init_45 : decode cX5_init 45 = .ok (.putfield 29, 3) := by decide +kernel
theorem dX5_init_48 : decode cX5_init 48 = .ok (.aload_n 0, 1) := by decide +kernel
theorem dX5_init_49 : decode cX5_init 49 = .ok (.new 33, 3) := by decide +kernel
theorem dX5_init_52 : decode cX5_init 52 = .ok (.dup, 1) := by decide +kernel
theorem dX5_init_53 : decode cX5_init 53 = .ok (.invokespecial 35, 3) := by decide +kernel
theorem dX5_init_56 : decode cX5_init 56 = .ok (.putfield 36, 3) := by decide +kernel
theorem dX5_init_59 : decode cX5_init 59 = .ok (.return_, 1) := by decide +kernel
set_option maxRecDepth 20000 in
theorem ggX5_addWheel_X5_isDirection : GoodIn wsX5_addWheel wsX5_isDirection := goodIn_r _ [12, 13, 14, 11, 15] (by decide +kernel) (by decide +kernel)
set_option maxRecDepth 20000 in
theorem gX5_addWheel_X5_isDirection : GoodIn wsX5_addWheel (va_wsS RX5 40 yX5_isDirection wsX5_isDirection) := goodIn_app (goodIn_of _ (by decide +kernel)) ggX5_addWheel_X5_isDirection
set_option maxRecDepth 20000 in
theorem ggX5_addWheel_X5_isWithin : GoodIn wsX5_addWheel wsX5_isWithin := goodIn_r _ [15] (by decide +kernel) (by decide +kernel)
set_option maxRecDepth 20000 in
theorem gX5_addWheel_X5_isWithin : GoodIn wsX5_addWheel (va_wsS RX5 45 yX5_isWithin wsX5_isWithin) := goodIn_app (goodIn_of _ (by decide +kernel)) ggX5_addWheel_X5_isWithin
set_option maxRecDepth 20000 in
theorem ggX5_addWheel_X1_keep : GoodIn wsX5_addWheel wsX1_keep := goodIn_r _ [20, 21, 22, 23, 24, 25, 19, 26, 27, 28, 29, 30, 31, 32, 33, 34, 35, 36, 37, 38, 39, 40, 41, 42, 43, 44, 45, 46, 47, 48, 49, 50, 51, 52, 53, 54, 55, 56, 57, 58, 79, 80, 68, 69, 70, 71, 72, 73, 74, 75, 76, 77, 78, 81, 82, 83, 84, 85, 86] (by decide +kernel) (by decide +kernel)
set_option maxRecDepth 20000 in
theorem gX5_addWheel_X1_keep : GoodIn wsX5_addWheel (wsV RX5 55 RX1 yX1_keep wsX1_keep) := goodIn_app (goodIn_of _ (by decide +kernel)) ggX5_addWheel_X1_keep
set_option maxRecDepth 20000 in
theorem ggX5_addWheel_X4_start : GoodIn wsX5_addWheel wsX4_start := goodIn_r _ [62, 52, 54, 55, 56, 57, 58, 81, 82, 83, 84, 85, 86] (by decide +kernel) (by decide +kernel)
set_option maxRecDepth 20000 in
theorem gX5_addWheel_X4_start : GoodIn wsX5_addWheel (wsV RX5 63 RX4 yX4_start wsX4_start) := goodIn_app (goodIn_of _ (by decide +kernel)) ggX5_addWheel_X4_start
theorem dX5_addWheel_0 : decode cX5_addWheel 0 = .ok (.iload_n 1, 1) := by decide +kernel
theorem dX5_addWheel_1 : decode cX5_addWheel 1 = .ok (.iload_n 2, 1) := by decide +kernel
theorem dX5_addWheel_2 : decode cX5_addWheel 2 = .ok (.iload_n 3, 1) := by decide +kernel
theorem dX5_addWheel_3 : decode cX5_addWheel 3 = .ok (.invokestatic 40, 3) := by decide +kernel
theorem dX5_addWheel_6 : decode cX5_addWheel 6 = .ok (.ifCond .eq 25, 3) := by decide +kernel
theorem dX5_addWheel_9 : decode cX5_addWheel 9 = .ok (.iload 4, 2) := by decide +kernel
theorem dX5_addWheel_11 : decode cX5_addWheel 11 = .ok (.iconst 1, 1) := by decide +kernel
theorem dX5_addWheel_12 : decode cX5_addWheel 12 = .ok (.ldc 44, 2) := by decide +kernel
theorem dX5_addWheel_14 : decode cX5_addWheel 14 = .ok (.invokestatic 45, 3) := by decide +kernel
theorem dX5_addWheel_17 : decode cX5_addWheel 17 = .ok (.ifCond .eq 14, 3) := by decide +kernel
theorem dX5_addWheel_20 : decode cX5_addWheel 20 = .ok (.iload 5, 2) := by decide +kernel
theorem dX5_addWheel_22 : decode cX5_addWheel 22 = .ok (.iconst 1, 1) := by decide +kernel
theorem dX5_addWheel_23 : decode cX5_addWheel 23 = .ok (.ldc 48, 2) := by decide +kernel
theorem dX5_addWheel_25 : decode cX5_addWheel 25 = .ok (.invokestatic 45, 3) := by decide +kernel
theorem dX5_addWheel_28 : decode cX5_addWheel 28 = .ok (.ifCond .ne 6, 3) := by decide +kernel
theorem dX5_addWheel_31 : decode cX5_addWheel 31 = .ok (.ldc 49, 2) := by decide +kernel
theorem dX5_addWheel_33 : decode cX5_addWheel 33 = .ok (.ireturn, 1) := by decide +kernel
theorem dX5_addWheel_34 : decode cX5_addWheel 34 = .ok (.aload_n 0, 1) := by decide +kernel
theorem dX5_addWheel_35 : decode cX5_addWheel 35 = .ok (.getfield 10, 3) := by decide +kernel
theorem dX5_addWheel_38 : decode cX5_addWheel 38 = .ok (.getfield 50, 3) := by decide +kernel
theorem dX5_addWheel_41 : decode cX5_addWheel 41 = .ok (.istore 6, 2) := by decide +kernel
theorem dX5_addWheel_43 : decode cX5_addWheel 43 = .ok (.iload 6, 2) := by decide +kernel
theorem dX5_addWheel_45 : decode cX5_addWheel 45 = .ok (.bipush 6, 2) := by decide +kernel
theorem dX5_addWheel_47 : decode cX5_addWheel 47 = .ok (.if_icmp .lt 6, 3) := by decide +kernel
theorem dX5_addWheel_50 : decode cX5_addWheel 50 = .ok (.ldc 54, 2) := by decide +kernel
theorem dX5_addWheel_52 : decode cX5_addWheel 52 = .ok (.ireturn, 1) := by decide +kernel
theorem dX5_addWheel_53 : decode cX5_addWheel 53 = .ok (.aload_n 0, 1) := by decide +kernel
theorem dX5_addWheel_54 : decode cX5_addWheel 54 = .ok (.getfield 36, 3) := by decide +kernel
theorem dX5_addWheel_57 : decode cX5_addWheel 57 = .ok (.aload_n 0, 1) := by decide +kernel
theorem dX5_addWheel_58 : decode cX5_addWheel 58 = .ok (.getfield 10, 3) := by decide +kernel
theorem dX5_addWheel_61 : decode cX5_addWheel 61 = .ok (.invokevirtual 55, 3) := by decide +kernel
theorem dX5_addWheel_64 : decode cX5_addWheel 64 = .ok (.aload_n 0, 1) := by decide +kernel
theorem dX5_addWheel_65 : decode cX5_addWheel 65 = .ok (.getfield 10, 3) := by decide +kernel
theorem dX5_addWheel_68 : decode cX5_addWheel 68 = .ok (.getfield 59, 3) := by decide +kernel
theorem dX5_addWheel_71 : decode cX5_addWheel 71 = .ok (.iload 6, 2) := by decide +kernel
theorem dX5_addWheel_73 : decode cX5_addWheel 73 = .ok (.aaload, 1) := by decide +kernel
theorem dX5_addWheel_74 : decode cX5_addWheel 74 = .ok (.iload_n 1, 1) := by decide +kernel
theorem dX5_addWheel_75 : decode cX5_addWheel 75 = .ok (.iload_n 2, 1) := by decide +kernel
theorem dX5_addWheel_76 : decode cX5_addWheel 76 = .ok (.iload_n 3, 1) := by decide +kernel
theorem dX5_addWheel_77 : decode cX5_addWheel 77 = .ok (.iload 4, 2) := by decide +kernel
theorem dX5_addWheel_79 : decode cX5_addWheel 79 = .ok (.iload 5, 2) := by decide +kernel
theorem dX5_addWheel_81 : decode cX5_addWheel 81 = .ok (.invokevirtual 63, 3) := by decide +kernel
theorem dX5_addWheel_84 : decode cX5_addWheel 84 = .ok (.aload_n 0, 1) := by decide +kernel
theorem dX5_addWheel_85 : decode cX5_addWheel 85 = .ok (.getfield 10, 3) := by decide +kernel
theorem dX5_addWheel_88 : decode cX5_addWheel 88 = .ok (.iload 6, 2) := by decide +kernel
theorem dX5_addWheel_90 : decode cX5_addWheel 90 = .ok (.iconst 1, 1) := by decide +kernel
theorem dX5_addWheel_91 : decode cX5_addWheel 91 = .ok (.iadd, 1) := by decide +kernel
theorem dX5_addWheel_92 : decode cX5_addWheel 92 = .ok (.putfield 50, 3) := by decide +kernel
theorem dX5_addWheel_95 : decode cX5_addWheel 95 = .ok (.iload 6, 2) := by decide +kernel
theorem dX5_addWheel_97 : decode cX5_addWheel 97 = .ok (.ireturn, 1) := by decide +kernel
set_option maxRecDepth 20000 in
theorem ggX5_fail_X5_isWheel : GoodIn wsX5_fail wsX5_isWheel := goodIn_r _ [10, 3, 11, 12, 13, 9, 14, 58, 59, 60, 61, 62, 63, 64, 65, 66, 67, 68, 69, 70, 71, 72, 73] (by decide +kernel) (by decide +kernel)
set_option maxRecDepth 20000 in
theorem gX5_fail_X5_isWheel : GoodIn wsX5_fail (wsV RX5 69 RX5 yX5_isWheel wsX5_isWheel) := goodIn_app (goodIn_of _ (by decide +kernel)) ggX5_fail_X5_isWheel
set_option maxRecDepth 20000 in
theorem ggX5_fail_X1_keep : GoodIn wsX5_fail wsX1_keep := goodIn_r _ [19, 20, 21, 22, 23, 24, 18, 25, 26, 27, 28, 29, 30, 31, 32, 33, 34, 35, 36, 37, 38, 39, 40, 41, 42, 43, 44, 45, 46, 47, 48, 49, 50, 51, 52, 53, 54, 55, 56, 57, 80, 81, 63, 64, 65, 66, 67, 68, 69, 70, 71, 72, 73, 74, 75, 76, 77, 78, 79] (by decide +kernel) (by decide +kernel)
set_option maxRecDepth 20000 in
theorem gX5_fail_X1_keep : GoodIn wsX5_fail (wsV RX5 55 RX1 yX1_keep wsX1_keep) := goodIn_app (goodIn_of _ (by decide +kernel)) ggX5_fail_X1_keep
theorem dX5_fail_0 : decode cX5_fail 0 = .ok (.aload_n 0, 1) := by decide +kernel
theorem dX5_fail_1 : decode cX5_fail 1 = .ok (.iload_n 1, 1) := by decide +kernel
theorem dX5_fail_2 : decode cX5_fail 2 = .ok (.invokevirtual 69, 3) := by decide +kernel
theorem dX5_fail_5 : decode cX5_fail 5 = .ok (.ifCond .ne 6, 3) := by decide +kernel
theorem dX5_fail_8 : decode cX5_fail 8 = .ok (.ldc 49, 2) := by decide +kernel
theorem dX5_fail_10 : decode cX5_fail 10 = .ok (.ireturn, 1) := by decide +kernel
theorem dX5_fail_11 : decode cX5_fail 11 = .ok (.aload_n 0, 1) := by decide +kernel
theorem dX5_fail_12 : decode cX5_fail 12 = .ok (.getfield 36, 3) := by decide +kernel
theorem dX5_fail_15 : decode cX5_fail 15 = .ok (.aload_n 0, 1) := by decide +kernel
theorem dX5_fail_16 : decode cX5_fail 16 = .ok (.getfield 10, 3) := by decide +kernel
theorem dX5_fail_19 : decode cX5_fail 19 = .ok (.invokevirtual 55, 3) := by decide +kernel
theorem dX5_fail_22 : decode cX5_fail 22 = .ok (.aload_n 0, 1) := by decide +kernel
theorem dX5_fail_23 : decode cX5_fail 23 = .ok (.getfield 10, 3) := by decide +kernel
theorem dX5_fail_26 : decode cX5_fail 26 = .ok (.getfield 59, 3) := by decide +kernel
theorem dX5_fail_29 : decode cX5_fail 29 = .ok (.iload_n 1, 1) := by decide +kernel
theorem dX5_fail_30 : decode cX5_fail 30 = .ok (.aaload, 1) := by decide +kernel
theorem dX5_fail_31 : decode cX5_fail 31 = .ok (.astore_n 3, 1) := by decide +kernel
theorem dX5_fail_32 : decode cX5_fail 32 = .ok (.aload_n 3, 1) := by decide +kernel
theorem dX5_fail_33 : decode cX5_fail 33 = .ok (.getfield 73, 3) := by decide +kernel
theorem dX5_fail_36 : decode cX5_fail 36 = .ok (.ifCond .eq 7, 3) := by decide +kernel
theorem dX5_fail_39 : decode cX5_fail 39 = .ok (.iconst 1, 1) := by decide +kernel
theorem dX5_fail_40 : decode cX5_fail 40 = .ok (.goto 4, 3) := by decide +kernel
theorem dX5_fail_43 : decode cX5_fail 43 = .ok (.iconst 0, 1) := by decide +kernel
theorem dX5_fail_44 : decode cX5_fail 44 = .ok (.istore 4, 2) := by decide +kernel
theorem dX5_fail_46 : decode cX5_fail 46 = .ok (.aload_n 3, 1) := by decide +kernel
theorem dX5_fail_47 : decode cX5_fail 47 = .ok (.iload_n 2, 1) := by decide +kernel
theorem dX5_fail_48 : decode cX5_fail 48 = .ok (.putfield 73, 3) := by decide +kernel
theorem dX5_fail_51 : decode cX5_fail 51 = .ok (.iload 4, 2) := by decide +kernel
theorem dX5_fail_53 : decode cX5_fail 53 = .ok (.ireturn, 1) := by decide +kernel
set_option maxRecDepth 20000 in
theorem ggX5_setMost_X5_isWheel : GoodIn wsX5_setMost wsX5_isWheel := goodIn_r _ [13, 5, 14, 15, 16, 12, 17, 61, 62, 63, 64, 65, 66, 67, 68, 69, 70, 71, 72, 73, 74, 75, 76] (by decide +kernel) (by decide +kernel)
set_option maxRecDepth 20000 in
theorem gX5_setMost_X5_isWheel : GoodIn wsX5_setMost (wsV RX5 69 RX5 yX5_isWheel wsX5_isWheel) := goodIn_app (goodIn_of _ (by decide +kernel)) ggX5_setMost_X5_isWheel
set_option maxRecDepth 20000 in
theorem ggX5_setMost_X5_isWithin : GoodIn wsX5_setMost wsX5_isWithin := goodIn_r _ [17] (by decide +kernel) (by decide +kernel)
set_option maxRecDepth 20000 in
theorem gX5_setMost_X5_isWithin : GoodIn wsX5_setMost (va_wsS RX5 45 yX5_isWithin wsX5_isWithin) := goodIn_app (goodIn_of _ (by decide +kernel)) ggX5_setMost_X5_isWithin
set_option maxRecDepth 20000 in
theorem ggX5_setMost_X1_keep : GoodIn wsX5_setMost wsX1_keep := goodIn_r _ [22, 23, 24, 25, 26, 27, 21, 28, 29, 30, 31, 32, 33, 34, 35, 36, 37, 38, 39, 40, 41, 42, 43, 44, 45, 46, 47, 48, 49, 50, 51, 52, 53, 54, 55, 56, 57, 58, 59, 60, 83, 84, 66, 67, 68, 69, 70, 71, 72, 73, 74, 75, 76, 77, 78, 79, 80, 81, 82] (by decide +kernel) (by decide +kernel)
set_option maxRecDepth 20000 in
theorem gX5_setMost_X1_keep : GoodIn wsX5_setMost (wsV RX5 55 RX1 yX1_keep wsX1_keep) := goodIn_app (goodIn_of _ (by decide +kernel)) ggX5_setMost_X1_keep
theorem dX5_setMost_0 : decode cX5_setMost 0 = .ok (.aload_n 0, 1) := by decide +kernel
theorem dX5_setMost_1 : decode cX5_setMost 1 = .ok (.iload_n 1, 1) := by decide +kernel
theorem dX5_setMost_2 : decode cX5_setMost 2 = .ok (.invokevirtual 69, 3) := by decide +kernel
theorem dX5_setMost_5 : decode cX5_setMost 5 = .ok (.ifCond .eq 22, 3) := by decide +kernel
theorem dX5_setMost_8 : decode cX5_setMost 8 = .ok (.iload_n 3, 1) := by decide +kernel
theorem dX5_setMost_9 : decode cX5_setMost 9 = .ok (.iconst 1, 1) := by decide +kernel
theorem dX5_setMost_10 : decode cX5_setMost 10 = .ok (.iload_n 2, 1) := by decide +kernel
theorem dX5_setMost_11 : decode cX5_setMost 11 = .ok (.ifCond .eq 8, 3) := by decide +kernel
theorem dX5_setMost_14 : decode cX5_setMost 14 = .ok (.ldc 48, 2) := by decide +kernel
theorem dX5_setMost_16 : decode cX5_setMost 16 = .ok (.goto 5, 3) := by decide +kernel
theorem dX5_setMost_19 : decode cX5_setMost 19 = .ok (.ldc 44, 2) := by decide +kernel
theorem dX5_setMost_21 : decode cX5_setMost 21 = .ok (.invokestatic 45, 3) := by decide +kernel
theorem dX5_setMost_24 : decode cX5_setMost 24 = .ok (.ifCond .ne 6, 3) := by decide +kernel
theorem dX5_setMost_27 : decode cX5_setMost 27 = .ok (.ldc 49, 2) := by decide +kernel
theorem dX5_setMost_29 : decode cX5_setMost 29 = .ok (.ireturn, 1) := by decide +kernel
theorem dX5_setMost_30 : decode cX5_setMost 30 = .ok (.aload_n 0, 1) := by decide +kernel
theorem dX5_setMost_31 : decode cX5_setMost 31 = .ok (.getfield 36, 3) := by decide +kernel
theorem dX5_setMost_34 : decode cX5_setMost 34 = .ok (.aload_n 0, 1) := by decide +kernel
theorem dX5_setMost_35 : decode cX5_setMost 35 = .ok (.getfield 10, 3) := by decide +kernel
theorem dX5_setMost_38 : decode cX5_setMost 38 = .ok (.invokevirtual 55, 3) := by decide +kernel
theorem dX5_setMost_41 : decode cX5_setMost 41 = .ok (.aload_n 0, 1) := by decide +kernel
theorem dX5_setMost_42 : decode cX5_setMost 42 = .ok (.getfield 10, 3) := by decide +kernel
theorem dX5_setMost_45 : decode cX5_setMost 45 = .ok (.getfield 59, 3) := by decide +kernel
theorem dX5_setMost_48 : decode cX5_setMost 48 = .ok (.iload_n 1, 1) := by decide +kernel
theorem dX5_setMost_49 : decode cX5_setMost 49 = .ok (.aaload, 1) := by decide +kernel
theorem dX5_setMost_50 : decode cX5_setMost 50 = .ok (.astore 4, 2) := by decide +kernel
theorem dX5_setMost_52 : decode cX5_setMost 52 = .ok (.iload_n 2, 1) := by decide +kernel
theorem dX5_setMost_53 : decode cX5_setMost 53 = .ok (.ifCond .eq 11, 3) := by decide +kernel
theorem dX5_setMost_56 : decode cX5_setMost 56 = .ok (.aload 4, 2) := by decide +kernel
theorem dX5_setMost_58 : decode cX5_setMost 58 = .ok (.getfield 77, 3) := by decide +kernel
theorem dX5_setMost_61 : decode cX5_setMost 61 = .ok (.goto 8, 3) := by decide +kernel
theorem dX5_setMost_64 : decode cX5_setMost 64 = .ok (.aload 4, 2) := by decide +kernel
theorem dX5_setMost_66 : decode cX5_setMost 66 = .ok (.getfield 80, 3) := by decide +kernel
theorem dX5_setMost_69 : decode cX5_setMost 69 = .ok (.istore 5, 2) := by decide +kernel
theorem dX5_setMost_71 : decode cX5_setMost 71 = .ok (.iload_n 2, 1) := by decide +kernel
theorem dX5_setMost_72 : decode cX5_setMost 72 = .ok (.ifCond .eq 12, 3) := by decide +kernel
theorem dX5_setMost_75 : decode cX5_setMost 75 = .ok (.aload 4, 2) := by decide +kernel
theorem dX5_setMost_77 : decode cX5_setMost 77 = .ok (.iload_n 3, 1) := by decide +kernel
theorem dX5_setMost_78 : decode cX5_setMost 78 = .ok (.putfield 77, 3) := by decide +kernel
theorem dX5_setMost_81 : decode cX5_setMost 81 = .ok (.goto 9, 3) := by decide +kernel
theorem dX5_setMost_84 : decode cX5_setMost 84 = .ok (.aload 4, 2) := by decide +kernel
theorem dX5_setMost_86 : decode cX5_setMost 86 = .ok (.iload_n 3, 1) := by decide +kernel
theorem dX5_setMost_87 : decode cX5_setMost 87 = .ok (.putfield 80, 3) := by decide +kernel
theorem dX5_setMost_90 : decode cX5_setMost 90 = .ok (.iload 5, 2) := by decide +kernel
theorem dX5_setMost_92 : decode cX5_setMost 92 = .ok (.ireturn, 1) := by decide +kernel
set_option maxRecDepth 20000 in
theorem ggX5_wheel_X5_isWheel : GoodIn wsX5_wheel wsX5_isWheel := goodIn_r _ [8, 2, 9, 10, 11, 7, 12, 24, 25, 26, 27, 28, 29, 30, 31, 32, 33, 34, 35, 36, 37, 38, 39] (by decide +kernel) (by decide +kernel)
set_option maxRecDepth 20000 in
theorem gX5_wheel_X5_isWheel : GoodIn wsX5_wheel (wsV RX5 69 RX5 yX5_isWheel wsX5_isWheel) := goodIn_app (goodIn_of _ (by decide +kernel)) ggX5_wheel_X5_isWheel
set_option maxRecDepth 20000 in
theorem ggX5_wheel_X5_isWithin : GoodIn wsX5_wheel wsX5_isWithin := goodIn_r _ [12] (by decide +kernel) (by decide +kernel)
set_option maxRecDepth 20000 in
theorem gX5_wheel_X5_isWithin : GoodIn wsX5_wheel (va_wsS RX5 45 yX5_isWithin wsX5_isWithin) := goodIn_app (goodIn_of _ (by decide +kernel)) ggX5_wheel_X5_isWithin
set_option maxRecDepth 20000 in
theorem ggX5_wheel_X4_number : GoodIn wsX5_wheel wsX4_number := goodIn_r _ [17, 18, 19, 20, 21, 22, 23, 40, 41, 42, 43, 44, 45] (by decide +kernel) (by decide +kernel)
set_option maxRecDepth 20000 in
theorem gX5_wheel_X4_number : GoodIn wsX5_wheel (wsV RX5 83 RX4 yX4_number wsX4_number) := goodIn_app (goodIn_of _ (by decide +kernel)) ggX5_wheel_X4_number
theorem dX5_wheel_0 : decode cX5_wheel 0 = .ok (.aload_n 0, 1) := by decide +kernel
theorem dX5_wheel_1 : decode cX5_wheel 1 = .ok (.iload_n 1, 1) := by decide +kernel
theorem dX5_wheel_2 : decode cX5_wheel 2 = .ok (.invokevirtual 69, 3) := by decide +kernel
theorem dX5_wheel_5 : decode cX5_wheel 5 = .ok (.ifCond .eq 13, 3) := by decide +kernel
theorem dX5_wheel_8 : decode cX5_wheel 8 = .ok (.iload_n 2, 1) := by decide +kernel
theorem dX5_wheel_9 : decode cX5_wheel 9 = .ok (.iconst 0, 1) := by decide +kernel
theorem dX5_wheel_10 : decode cX5_wheel 10 = .ok (.bipush 7, 2) := by decide +kernel
theorem dX5_wheel_12 : decode cX5_wheel 12 = .ok (.invokestatic 45, 3) := by decide +kernel
theorem dX5_wheel_15 : decode cX5_wheel 15 = .ok (.ifCond .ne 6, 3) := by decide +kernel
theorem dX5_wheel_18 : decode cX5_wheel 18 = .ok (.ldc 49, 2) := by decide +kernel
theorem dX5_wheel_20 : decode cX5_wheel 20 = .ok (.ireturn, 1) := by decide +kernel
theorem dX5_wheel_21 : decode cX5_wheel 21 = .ok (.aload_n 0, 1) := by decide +kernel
theorem dX5_wheel_22 : decode cX5_wheel 22 = .ok (.getfield 10, 3) := by decide +kernel
theorem dX5_wheel_25 : decode cX5_wheel 25 = .ok (.getfield 59, 3) := by decide +kernel
theorem dX5_wheel_28 : decode cX5_wheel 28 = .ok (.iload_n 1, 1) := by decide +kernel
theorem dX5_wheel_29 : decode cX5_wheel 29 = .ok (.aaload, 1) := by decide +kernel
theorem dX5_wheel_30 : decode cX5_wheel 30 = .ok (.iload_n 2, 1) := by decide +kernel
theorem dX5_wheel_31 : decode cX5_wheel 31 = .ok (.invokevirtual 83, 3) := by decide +kernel
theorem dX5_wheel_34 : decode cX5_wheel 34 = .ok (.ireturn, 1) := by decide +kernel
theorem dX5_wheels_0 : decode cX5_wheels 0 = .ok (.aload_n 0, 1) := by decide +kernel
theorem dX5_wheels_1 : decode cX5_wheels 1 = .ok (.getfield 10, 3) := by decide +kernel
theorem dX5_wheels_4 : decode cX5_wheels 4 = .ok (.getfield 50, 3) := by decide +kernel
theorem dX5_wheels_7 : decode cX5_wheels 7 = .ok (.ireturn, 1) := by decide +kernel
set_option maxRecDepth 20000 in
theorem ggX5_setAxis_X5_isAxis : GoodIn wsX5_setAxis wsX5_isAxis := goodIn_r _ [10, 11, 12, 9, 13] (by decide +kernel) (by decide +kernel)
set_option maxRecDepth 20000 in
theorem gX5_setAxis_X5_isAxis : GoodIn wsX5_setAxis (va_wsS RX5 87 yX5_isAxis wsX5_isAxis) := goodIn_app (goodIn_of _ (by decide +kernel)) ggX5_setAxis_X5_isAxis
set_option maxRecDepth 20000 in
theorem ggX5_setAxis_X5_isWithin : GoodIn wsX5_setAxis wsX5_isWithin := goodIn_r _ [13] (by decide +kernel) (by decide +kernel)
set_option maxRecDepth 20000 in
theorem gX5_setAxis_X5_isWithin : GoodIn wsX5_setAxis (va_wsS RX5 45 yX5_isWithin wsX5_isWithin) := goodIn_app (goodIn_of _ (by decide +kernel)) ggX5_setAxis_X5_isWithin
set_option maxRecDepth 20000 in
theorem ggX5_setAxis_X1_keep : GoodIn wsX5_setAxis wsX1_keep := goodIn_r _ [18, 19, 20, 21, 22, 23, 17, 24, 25, 26, 27, 28, 29, 30, 31, 32, 33, 34, 35, 36, 37, 38, 39, 40, 41, 42, 43, 44, 45, 46, 47, 48, 49, 50, 51, 52, 53, 54, 55, 56, 73, 74, 62, 63, 64, 65, 66, 67, 68, 69, 70, 71, 72, 75, 76, 77, 78, 79, 80] (by decide +kernel) (by decide +kernel)
set_option maxRecDepth 20000 in
theorem gX5_setAxis_X1_keep : GoodIn wsX5_setAxis (wsV RX5 55 RX1 yX1_keep wsX1_keep) := goodIn_app (goodIn_of _ (by decide +kernel)) ggX5_setAxis_X1_keep
theorem dX5_setAxis_0 : decode cX5_setAxis 0 = .ok (.iload_n 1, 1) := by decide +kernel
theorem dX5_setAxis_1 : decode cX5_setAxis 1 = .ok (.invokestatic 87, 3) := by decide +kernel
theorem dX5_setAxis_4 : decode cX5_setAxis 4 = .ok (.ifCond .eq 29, 3) := by decide +kernel
theorem dX5_setAxis_7 : decode cX5_setAxis 7 = .ok (.iload_n 2, 1) := by decide +kernel
theorem dX5_setAxis_8 : decode cX5_setAxis 8 = .ok (.iconst 0, 1) := by decide +kernel
theorem dX5_setAxis_9 : decode cX5_setAxis 9 = .ok (.iconst 3, 1) := by decide +kernel
theorem dX5_setAxis_10 : decode cX5_setAxis 10 = .ok (.invokestatic 45, 3) := by decide +kernel
theorem dX5_setAxis_13 : decode cX5_setAxis 13 = .ok (.ifCond .eq 20, 3) := by decide +kernel
theorem dX5_setAxis_16 : decode cX5_setAxis 16 = .ok (.iload_n 3, 1) := by decide +kernel
theorem dX5_setAxis_17 : decode cX5_setAxis 17 = .ok (.getstatic 90, 3) := by decide +kernel
theorem dX5_setAxis_20 : decode cX5_setAxis 20 = .ok (.iload_n 2, 1) := by decide +kernel
theorem dX5_setAxis_21 : decode cX5_setAxis 21 = .ok (.iaload, 1) := by decide +kernel
theorem dX5_setAxis_22 : decode cX5_setAxis 22 = .ok (.getstatic 94, 3) := by decide +kernel
theorem dX5_setAxis_25 : decode cX5_setAxis 25 = .ok (.iload_n 2, 1) := by decide +kernel
theorem dX5_setAxis_26 : decode cX5_setAxis 26 = .ok (.iaload, 1) := by decide +kernel
theorem dX5_setAxis_27 : decode cX5_setAxis 27 = .ok (.invokestatic 45, 3) := by decide +kernel
theorem dX5_setAxis_30 : decode cX5_setAxis 30 = .ok (.ifCond .ne 6, 3) := by decide +kernel
theorem dX5_setAxis_33 : decode cX5_setAxis 33 = .ok (.ldc 49, 2) := by decide +kernel
theorem dX5_setAxis_35 : decode cX5_setAxis 35 = .ok (.ireturn, 1) := by decide +kernel
theorem dX5_setAxis_36 : decode cX5_setAxis 36 = .ok (.aload_n 0, 1) := by decide +kernel
theorem dX5_setAxis_37 : decode cX5_setAxis 37 = .ok (.getfield 36, 3) := by decide +kernel
theorem dX5_setAxis_40 : decode cX5_setAxis 40 = .ok (.aload_n 0, 1) := by decide +kernel
theorem dX5_setAxis_41 : decode cX5_setAxis 41 = .ok (.getfield 10, 3) := by decide +kernel
theorem dX5_setAxis_44 : decode cX5_setAxis 44 = .ok (.invokevirtual 55, 3) := by decide +kernel
theorem dX5_setAxis_47 : decode cX5_setAxis 47 = .ok (.aload_n 0, 1) := by decide +kernel
theorem dX5_setAxis_48 : decode cX5_setAxis 48 = .ok (.getfield 10, 3) := by decide +kernel
theorem dX5_setAxis_51 : decode cX5_setAxis 51 = .ok (.getfield 97, 3) := by decide +kernel
theorem dX5_setAxis_54 : decode cX5_setAxis 54 = .ok (.iload_n 2, 1) := by decide +kernel
theorem dX5_setAxis_55 : decode cX5_setAxis 55 = .ok (.aaload, 1) := by decide +kernel
theorem dX5_setAxis_56 : decode cX5_setAxis 56 = .ok (.iload_n 1, 1) := by decide +kernel
theorem dX5_setAxis_57 : decode cX5_setAxis 57 = .ok (.iaload, 1) := by decide +kernel
theorem dX5_setAxis_58 : decode cX5_setAxis 58 = .ok (.istore 4, 2) := by decide +kernel
theorem dX5_setAxis_60 : decode cX5_setAxis 60 = .ok (.aload_n 0, 1) := by decide +kernel
theorem dX5_setAxis_61 : decode cX5_setAxis 61 = .ok (.getfield 10, 3) := by decide +kernel
theorem dX5_setAxis_64 : decode cX5_setAxis 64 = .ok (.getfield 97, 3) := by decide +kernel
theorem dX5_setAxis_67 : decode cX5_setAxis 67 = .ok (.iload_n 2, 1) := by decide +kernel
theorem dX5_setAxis_68 : decode cX5_setAxis 68 = .ok (.aaload, 1) := by decide +kernel
theorem dX5_setAxis_69 : decode cX5_setAxis 69 = .ok (.iload_n 1, 1) := by decide +kernel
theorem dX5_setAxis_70 : decode cX5_setAxis 70 = .ok (.iload_n 3, 1) := by decide +kernel
theorem dX5_setAxis_71 : decode cX5_setAxis 71 = .ok (.iastore, 1) := by decide +kernel
theorem dX5_setAxis_72 : decode cX5_setAxis 72 = .ok (.iload 4, 2) := by decide +kernel
theorem dX5_setAxis_74 : decode cX5_setAxis 74 = .ok (.ireturn, 1) := by decide +kernel
set_option maxRecDepth 20000 in
theorem ggX5_set_X5_isWithin : GoodIn wsX5_set wsX5_isWithin := goodIn_r _ [10] (by decide +kernel) (by decide +kernel)
set_option maxRecDepth 20000 in
theorem gX5_set_X5_isWithin : GoodIn wsX5_set (va_wsS RX5 45 yX5_isWithin wsX5_isWithin) := goodIn_app (goodIn_of _ (by decide +kernel)) ggX5_set_X5_isWithin
set_option maxRecDepth 20000 in
theorem ggX5_set_X1_keep : GoodIn wsX5_set wsX1_keep := goodIn_r _ [15, 16, 17, 18, 19, 20, 14, 21, 22, 23, 24, 25, 26, 27, 28, 29, 30, 31, 32, 33, 34, 35, 36, 37, 38, 39, 40, 41, 42, 43, 44, 45, 46, 47, 48, 49, 50, 51, 52, 53, 70, 71, 59, 60, 61, 62, 63, 64, 65, 66, 67, 68, 69, 72, 73, 74, 75, 76, 77] (by decide +kernel) (by decide +kernel)
set_option maxRecDepth 20000 in
theorem gX5_set_X1_keep : GoodIn wsX5_set (wsV RX5 55 RX1 yX1_keep wsX1_keep) := goodIn_app (goodIn_of _ (by decide +kernel)) ggX5_set_X1_keep
theorem dX5_set_0 : decode cX5_set 0 = .ok (.iload_n 1, 1) := by decide +kernel
theorem dX5_set_1 : decode cX5_set 1 = .ok (.iconst 0, 1) := by decide +kernel
theorem dX5_set_2 : decode cX5_set 2 = .ok (.iconst 4, 1) := by decide +kernel
theorem dX5_set_3 : decode cX5_set 3 = .ok (.invokestatic 45, 3) := by decide +kernel
theorem dX5_set_6 : decode cX5_set 6 = .ok (.ifCond .eq 20, 3) := by decide +kernel
theorem dX5_set_9 : decode cX5_set 9 = .ok (.iload_n 2, 1) := by decide +kernel
theorem dX5_set_10 : decode cX5_set 10 = .ok (.getstatic 101, 3) := by decide +kernel
theorem dX5_set_13 : decode cX5_set 13 = .ok (.iload_n 1, 1) := by decide +kernel
theorem dX5_set_14 : decode cX5_set 14 = .ok (.iaload, 1) := by decide +kernel
theorem dX5_set_15 : decode cX5_set 15 = .ok (.getstatic 104, 3) := by decide +kernel
theorem dX5_set_18 : decode cX5_set 18 = .ok (.iload_n 1, 1) := by decide +kernel
theorem dX5_set_19 : decode cX5_set 19 = .ok (.iaload, 1) := by decide +kernel
theorem dX5_set_20 : decode cX5_set 20 = .ok (.invokestatic 45, 3) := by decide +kernel
theorem dX5_set_23 : decode cX5_set 23 = .ok (.ifCond .ne 6, 3) := by decide +kernel
theorem dX5_set_26 : decode cX5_set 26 = .ok (.ldc 49, 2) := by decide +kernel
theorem dX5_set_28 : decode cX5_set 28 = .ok (.ireturn, 1) := by decide +kernel
theorem dX5_set_29 : decode cX5_set 29 = .ok (.aload_n 0, 1) := by decide +kernel
theorem dX5_set_30 : decode cX5_set 30 = .ok (.getfield 36, 3) := by decide +kernel
theorem dX5_set_33 : decode cX5_set 33 = .ok (.aload_n 0, 1) := by decide +kernel
theorem dX5_set_34 : decode cX5_set 34 = .ok (.getfield 10, 3) := by decide +kernel
theorem dX5_set_37 : decode cX5_set 37 = .ok (.invokevirtual 55, 3) := by decide +kernel
theorem dX5_set_40 : decode cX5_set 40 = .ok (.aload_n 0, 1) := by decide +kernel
theorem dX5_set_41 : decode cX5_set 41 = .ok (.getfield 10, 3) := by decide +kernel
theorem dX5_set_44 : decode cX5_set 44 = .ok (.getfield 107, 3) := by decide +kernel
theorem dX5_set_47 : decode cX5_set 47 = .ok (.iload_n 1, 1) := by decide +kernel
theorem dX5_set_48 : decode cX5_set 48 = .ok (.iaload, 1) := by decide +kernel
theorem dX5_set_49 : decode cX5_set 49 = .ok (.istore_n 3, 1) := by decide +kernel
theorem dX5_set_50 : decode cX5_set 50 = .ok (.aload_n 0, 1) := by decide +kernel
theorem dX5_set_51 : decode cX5_set 51 = .ok (.getfield 10, 3) := by decide +kernel
theorem dX5_set_54 : decode cX5_set 54 = .ok (.getfield 107, 3) := by decide +kernel
theorem dX5_set_57 : decode cX5_set 57 = .ok (.iload_n 1, 1) := by decide +kernel
theorem dX5_set_58 : decode cX5_set 58 = .ok (.iload_n 2, 1) := by decide +kernel
theorem dX5_set_59 : decode cX5_set 59 = .ok (.iastore, 1) := by decide +kernel
theorem dX5_set_60 : decode cX5_set 60 = .ok (.iload_n 3, 1) := by decide +kernel
theorem dX5_set_61 : decode cX5_set 61 = .ok (.ireturn, 1) := by decide +kernel
set_option maxRecDepth 20000 in
theorem ggX5_setting_X5_isWithin : GoodIn wsX5_setting wsX5_isWithin := goodIn_r _ [7] (by decide +kernel) (by decide +kernel)
set_option maxRecDepth 20000 in
theorem gX5_setting_X5_isWithin : GoodIn wsX5_setting (va_wsS RX5 45 yX5_isWithin wsX5_isWithin) := goodIn_app (goodIn_of _ (by decide +kernel)) ggX5_setting_X5_isWithin
theorem dX5_setting_0 : decode cX5_setting 0 = .ok (.iload_n 1, 1) := by decide +kernel
theorem dX5_setting_1 : decode cX5_setting 1 = .ok (.iconst 0, 1) := by decide +kernel
theorem dX5_setting_2 : decode cX5_setting 2 = .ok (.iconst 4, 1) := by decide +kernel
theorem dX5_setting_3 : decode cX5_setting 3 = .ok (.invokestatic 45, 3) := by decide +kernel
theorem dX5_setting_6 : decode cX5_setting 6 = .ok (.ifCond .eq 15, 3) := by decide +kernel
theorem dX5_setting_9 : decode cX5_setting 9 = .ok (.aload_n 0, 1) := by decide +kernel
theorem dX5_setting_10 : decode cX5_setting 10 = .ok (.getfield 10, 3) := by decide +kernel
theorem dX5_setting_13 : decode cX5_setting 13 = .ok (.getfield 107, 3) := by decide +kernel
theorem dX5_setting_16 : decode cX5_setting 16 = .ok (.iload_n 1, 1) := by decide +kernel
theorem dX5_setting_17 : decode cX5_setting 17 = .ok (.iaload, 1) := by decide +kernel
theorem dX5_setting_18 : decode cX5_setting 18 = .ok (.goto 5, 3) := by decide +kernel
theorem dX5_setting_21 : decode cX5_setting 21 = .ok (.ldc 49, 2) := by decide +kernel
theorem dX5_setting_23 : decode cX5_setting 23 = .ok (.ireturn, 1) := by decide +kernel
set_option maxRecDepth 20000 in
theorem ggX5_strike_X5_isAxis : GoodIn wsX5_strike wsX5_isAxis := goodIn_r _ [9, 10, 11, 8, 12] (by decide +kernel) (by decide +kernel)
set_option maxRecDepth 20000 in
theorem gX5_strike_X5_isAxis : GoodIn wsX5_strike (va_wsS RX5 87 yX5_isAxis wsX5_isAxis) := goodIn_app (goodIn_of _ (by decide +kernel)) ggX5_strike_X5_isAxis
set_option maxRecDepth 20000 in
theorem ggX5_strike_X5_isWithin : GoodIn wsX5_strike wsX5_isWithin := goodIn_r _ [12] (by decide +kernel) (by decide +kernel)
set_option maxRecDepth 20000 in
theorem gX5_strike_X5_isWithin : GoodIn wsX5_strike (va_wsS RX5 45 yX5_isWithin wsX5_isWithin) := goodIn_app (goodIn_of _ (by decide +kernel)) ggX5_strike_X5_isWithin
set_option maxRecDepth 20000 in
theorem ggX5_strike_X1_keep : GoodIn wsX5_strike wsX1_keep := goodIn_r _ [17, 18, 19, 20, 21, 22, 16, 23, 24, 25, 26, 27, 28, 29, 30, 31, 32, 33, 34, 35, 36, 37, 38, 39, 40, 41, 42, 43, 44, 45, 46, 47, 48, 49, 50, 51, 52, 53, 54, 55, 75, 76, 77, 78, 79, 80, 81, 82, 83, 84, 85, 86, 87, 88, 89, 90, 91, 92, 93] (by decide +kernel) (by decide +kernel)
set_option maxRecDepth 20000 in
theorem gX5_strike_X1_keep : GoodIn wsX5_strike (wsV RX5 55 RX1 yX1_keep wsX1_keep) := goodIn_app (goodIn_of _ (by decide +kernel)) ggX5_strike_X1_keep
set_option maxRecDepth 20000 in
theorem ggX5_strike_X0_pushFromOutside : GoodIn wsX5_strike wsX0_pushFromOutside := goodIn_r _ [59, 37, 38, 77, 78, 79, 80, 81, 82, 83, 84, 85, 86, 87] (by decide +kernel) (by decide +kernel)
set_option maxRecDepth 20000 in
theorem gX5_strike_X0_pushFromOutside : GoodIn wsX5_strike (wsV RX5 113 RX0 yX0_pushFromOutside wsX0_pushFromOutside) := goodIn_app (goodIn_of _ (by decide +kernel)) ggX5_strike_X0_pushFromOutside
set_option maxRecDepth 20000 in
theorem ggX5_strike_X0_rate : GoodIn wsX5_strike wsX0_rate := goodIn_r _ [63, 37, 35, 64, 8, 65, 66, 67, 68, 69, 77, 78, 79, 80, 81, 82, 83, 84, 85, 86, 87] (by decide +kernel) (by decide +kernel)
set_option maxRecDepth 20000 in
theorem gX5_strike_X0_rate : GoodIn wsX5_strike (wsV RX5 117 RX0 yX0_rate wsX0_rate) := goodIn_app (goodIn_of _ (by decide +kernel)) ggX5_strike_X0_rate
theorem dX5_strike_0 : decode cX5_strike 0 = .ok (.iload_n 1, 1) := by decide +kernel
theorem dX5_strike_1 : decode cX5_strike 1 = .ok (.invokestatic 87, 3) := by decide +kernel
theorem dX5_strike_4 : decode cX5_strike 4 = .ok (.ifCond .eq 14, 3) := by decide +kernel
theorem dX5_strike_7 : decode cX5_strike 7 = .ok (.iload_n 2, 1) := by decide +kernel
theorem dX5_strike_8 : decode cX5_strike 8 = .ok (.ldc 110, 2) := by decide +kernel
theorem dX5_strike_10 : decode cX5_strike 10 = .ok (.ldc 48, 2) := by decide +kernel
theorem dX5_strike_12 : decode cX5_strike 12 = .ok (.invokestatic 45, 3) := by decide +kernel
theorem dX5_strike_15 : decode cX5_strike 15 = .ok (.ifCond .ne 7, 3) := by decide +kernel
theorem dX5_strike_18 : decode cX5_strike 18 = .ok (.ldc2_w 111, 3) := by decide +kernel
theorem dX5_strike_21 : decode cX5_strike 21 = .ok (.lreturn, 1) := by decide +kernel
theorem dX5_strike_22 : decode cX5_strike 22 = .ok (.aload_n 0, 1) := by decide +kernel
theorem dX5_strike_23 : decode cX5_strike 23 = .ok (.getfield 36, 3) := by decide +kernel
theorem dX5_strike_26 : decode cX5_strike 26 = .ok (.aload_n 0, 1) := by decide +kernel
theorem dX5_strike_27 : decode cX5_strike 27 = .ok (.getfield 10, 3) := by decide +kernel
theorem dX5_strike_30 : decode cX5_strike 30 = .ok (.invokevirtual 55, 3) := by decide +kernel
theorem dX5_strike_33 : decode cX5_strike 33 = .ok (.aload_n 0, 1) := by decide +kernel
theorem dX5_strike_34 : decode cX5_strike 34 = .ok (.getfield 10, 3) := by decide +kernel
theorem dX5_strike_37 : decode cX5_strike 37 = .ok (.iload_n 1, 1) := by decide +kernel
theorem dX5_strike_38 : decode cX5_strike 38 = .ok (.iload_n 2, 1) := by decide +kernel
theorem dX5_strike_39 : decode cX5_strike 39 = .ok (.i2l, 1) := by decide +kernel
theorem dX5_strike_40 : decode cX5_strike 40 = .ok (.invokevirtual 113, 3) := by decide +kernel
theorem dX5_strike_43 : decode cX5_strike 43 = .ok (.aload_n 0, 1) := by decide +kernel
theorem dX5_strike_44 : decode cX5_strike 44 = .ok (.getfield 10, 3) := by decide +kernel
theorem dX5_strike_47 : decode cX5_strike 47 = .ok (.iload_n 1, 1) := by decide +kernel
theorem dX5_strike_48 : decode cX5_strike 48 = .ok (.invokevirtual 117, 3) := by decide +kernel
theorem dX5_strike_51 : decode cX5_strike 51 = .ok (.lreturn, 1) := by decide +kernel
set_option maxRecDepth 20000 in
theorem ggX5_tick_X5_isWithin : GoodIn wsX5_tick wsX5_isWithin := goodIn_r _ [12] (by decide +kernel) (by decide +kernel)
set_option maxRecDepth 20000 in
theorem gX5_tick_X5_isWithin : GoodIn wsX5_tick (va_wsS RX5 45 yX5_isWithin wsX5_isWithin) := goodIn_app (goodIn_of _ (by decide +kernel)) ggX5_tick_X5_isWithin
set_option maxRecDepth 20000 in
theorem ggX5_tick_X1_keep : GoodIn wsX5_tick wsX1_keep := goodIn_r _ [17, 18, 19, 20, 21, 22, 16, 23, 24, 25, 26, 27, 28, 29, 30, 31, 32, 33, 34, 35, 36, 37, 38, 39, 40, 41, 42, 43, 44, 45, 46, 47, 48, 49, 50, 51, 52, 53, 54, 55, 209, 210, 198, 199, 200, 201, 202, 203, 204, 205, 206, 207, 208, 211, 212, 213, 214, 215, 216] (by decide +kernel) (by decide +kernel)
set_option maxRecDepth 20000 in
theorem gX5_tick_X1_keep : GoodIn wsX5_tick (wsV RX5 55 RX1 yX1_keep wsX1_keep) := goodIn_app (goodIn_of _ (by decide +kernel)) ggX5_tick_X1_keep
set_option maxRecDepth 20000 in
theorem ggX5_tick_X3_measure : GoodIn wsX5_tick wsX3_measure := goodIn_r _ [60, 61, 62, 63, 64, 65, 66, 67, 68, 69, 70, 59, 71, 72, 73, 74, 75, 76, 11, 77, 217, 218, 219, 220, 198, 199, 200, 201, 202, 203, 204, 205, 206, 207, 208, 211, 212, 213, 214, 215, 216] (by decide +kernel) (by decide +kernel)
set_option maxRecDepth 20000 in
theorem gX5_tick_X3_measure : GoodIn wsX5_tick (wsV RX5 127 RX3 yX3_measure wsX3_measure) := goodIn_app (goodIn_of _ (by decide +kernel)) ggX5_tick_X3_measure
set_option maxRecDepth 20000 in
theorem ggX5_tick_X5_passOne : GoodIn wsX5_tick wsX5_passOne := goodIn_r _ [81, 3, 7, 82, 83, 84, 85, 27, 86, 30, 35, 36, 87, 39, 88, 11, 89, 90, 91, 92, 93, 94, 95, 96, 97, 98, 99, 37, 100, 101, 102, 59, 103, 62, 63, 104, 105, 64, 106, 107, 108, 109, 66, 110, 111, 112, 113, 42, 43, 40, 41, 114, 115, 116, 117, 118, 119, 120, 121, 122, 123, 67, 124, 125, 126, 127, 128, 129, 65, 130, 131, 132, 133, 134, 135, 136, 137, 138, 47, 139, 53, 140, 141, 142, 143, 52, 51, 144, 145, 146, 147, 148, 149, 150, 151, 152, 153, 154, 155, 156, 157, 158, 159, 160, 161, 162, 163, 164, 165, 166, 167, 168, 169, 170, 171, 172, 173, 174, 175, 176, 177, 178, 76, 77, 179, 180, 181, 182, 38, 183, 184, 185, 186, 187, 188, 189, 190, 191, 198, 199, 200, 201, 202, 203, 204, 205, 206, 207, 208, 193, 194, 195, 196, 197, 211, 212, 213, 214, 215, 216, 217, 218, 219, 220, 221, 222] (by decide +kernel) (by decide +kernel)
set_option maxRecDepth 20000 in
theorem gX5_tick_X5_passOne : GoodIn wsX5_tick (wsV RX5 131 RX5 yX5_passOne wsX5_passOne) := goodIn_app (goodIn_of _ (by decide +kernel)) ggX5_tick_X5_passOne
set_option maxRecDepth 20000 in
theorem ggX5_tick_X0_isMet : GoodIn wsX5_tick wsX0_isMet := goodIn_r _ [154, 42, 198, 199, 200, 201, 202, 203, 204, 205, 206, 207, 208] (by decide +kernel) (by decide +kernel)
set_option maxRecDepth 20000 in
theorem gX5_tick_X0_isMet : GoodIn wsX5_tick (wsV RX5 134 RX0 yX0_isMet wsX0_isMet) := goodIn_app (goodIn_of _ (by decide +kernel)) ggX5_tick_X0_isMet
theorem dX5_tick_0 : decode cX5_tick 0 = .ok (.iload_n 1, 1) := by decide +kernel
theorem dX5_tick_1 : decode cX5_tick 1 = .ok (.iconst 1, 1) := by decide +kernel
theorem dX5_tick_2 : decode cX5_tick 2 = .ok (.sipush 200, 3) := by decide +kernel
theorem dX5_tick_5 : decode cX5_tick 5 = .ok (.invokestatic 45, 3) := by decide +kernel
theorem dX5_tick_8 : decode cX5_tick 8 = .ok (.ifCond .ne 6, 3) := by decide +kernel
theorem dX5_tick_11 : decode cX5_tick 11 = .ok (.ldc 49, 2) := by decide +kernel
theorem dX5_tick_13 : decode cX5_tick 13 = .ok (.ireturn, 1) := by decide +kernel
theorem dX5_tick_14 : decode cX5_tick 14 = .ok (.aload_n 0, 1) := by decide +kernel
theorem dX5_tick_15 : decode cX5_tick 15 = .ok (.getfield 10, 3) := by decide +kernel
theorem dX5_tick_18 : decode cX5_tick 18 = .ok (.getfield 121, 3) := by decide +kernel
theorem dX5_tick_21 : decode cX5_tick 21 = .ok (.iload_n 1, 1) := by decide +kernel
theorem dX5_tick_22 : decode cX5_tick 22 = .ok (.iadd, 1) := by decide +kernel
theorem dX5_tick_23 : decode cX5_tick 23 = .ok (.ldc 124, 2) := by decide +kernel
theorem dX5_tick_25 : decode cX5_tick 25 = .ok (.if_icmp .le 6, 3) := by decide +kernel
theorem dX5_tick_28 : decode cX5_tick 28 = .ok (.ldc 125, 2) := by decide +kernel
theorem dX5_tick_30 : decode cX5_tick 30 = .ok (.ireturn, 1) := by decide +kernel
theorem dX5_tick_31 : decode cX5_tick 31 = .ok (.aload_n 0, 1) := by decide +kernel
theorem dX5_tick_32 : decode cX5_tick 32 = .ok (.getfield 36, 3) := by decide +kernel
theorem dX5_tick_35 : decode cX5_tick 35 = .ok (.aload_n 0, 1) := by decide +kernel
theorem dX5_tick_36 : decode cX5_tick 36 = .ok (.getfield 10, 3) := by decide +kernel
theorem dX5_tick_39 : decode cX5_tick 39 = .ok (.invokevirtual 55, 3) := by decide +kernel
theorem dX5_tick_42 : decode cX5_tick 42 = .ok (.aload_n 0, 1) := by decide +kernel
theorem dX5_tick_43 : decode cX5_tick 43 = .ok (.getfield 22, 3) := by decide +kernel
theorem dX5_tick_46 : decode cX5_tick 46 = .ok (.aload_n 0, 1) := by decide +kernel
theorem dX5_tick_47 : decode cX5_tick 47 = .ok (.getfield 10, 3) := by decide +kernel
theorem dX5_tick_50 : decode cX5_tick 50 = .ok (.ldc 126, 2) := by decide +kernel
theorem dX5_tick_52 : decode cX5_tick 52 = .ok (.invokevirtual 127, 3) := by decide +kernel
theorem dX5_tick_55 : decode cX5_tick 55 = .ok (.iconst 0, 1) := by decide +kernel
theorem dX5_tick_56 : decode cX5_tick 56 = .ok (.istore_n 2, 1) := by decide +kernel
theorem dX5_tick_57 : decode cX5_tick 57 = .ok (.iconst 0, 1) := by decide +kernel
theorem dX5_tick_58 : decode cX5_tick 58 = .ok (.istore_n 3, 1) := by decide +kernel
theorem dX5_tick_59 : decode cX5_tick 59 = .ok (.iload_n 3, 1) := by decide +kernel
theorem dX5_tick_60 : decode cX5_tick 60 = .ok (.iload_n 1, 1) := by decide +kernel
theorem dX5_tick_61 : decode cX5_tick 61 = .ok (.if_icmp .ge 35, 3) := by decide +kernel
theorem dX5_tick_64 : decode cX5_tick 64 = .ok (.aload_n 0, 1) := by decide +kernel
theorem dX5_tick_65 : decode cX5_tick 65 = .ok (.aload_n 0, 1) := by decide +kernel
theorem dX5_tick_66 : decode cX5_tick 66 = .ok (.getfield 10, 3) := by decide +kernel
theorem dX5_tick_69 : decode cX5_tick 69 = .ok (.invokevirtual 131, 3) := by decide +kernel
theorem dX5_tick_72 : decode cX5_tick 72 = .ok (.iload_n 2, 1) := by decide +kernel
theorem dX5_tick_73 : decode cX5_tick 73 = .ok (.aload_n 0, 1) := by decide +kernel
theorem dX5_tick_74 : decode cX5_tick 74 = .ok (.getfield 10, 3) := by decide +kernel
theorem dX5_tick_77 : decode cX5_tick 77 = .ok (.invokevirtual 134, 3) := by decide +kernel
theorem dX5_tick_80 : decode cX5_tick 80 = .ok (.ifCond .eq 7, 3) := by decide +kernel
theorem dX5_tick_83 : decode cX5_tick 83 = .ok (.iconst 1, 1) := by decide +kernel
theorem dX5_tick_84 : decode cX5_tick 84 = .ok (.goto 4, 3) := by decide +kernel
theorem dX5_tick_87 : decode cX5_tick 87 = .ok (.iconst 0, 1) := by decide +kernel
theorem dX5_tick_88 : decode cX5_tick 88 = .ok (.iadd, 1) := by decide +kernel
theorem dX5_tick_89 : decode cX5_tick 89 = .ok (.istore_n 2, 1) := by decide +kernel
theorem dX5_tick_90 : decode cX5_tick 90 = .ok (.iinc 3 1, 3) := by decide +kernel
theorem dX5_tick_93 : decode cX5_tick 93 = .ok (.goto (-34), 3) := by decide +kernel
theorem dX5_tick_96 : decode cX5_tick 96 = .ok (.iload_n 2, 1) := by decide +kernel
theorem dX5_tick_97 : decode cX5_tick 97 = .ok (.ireturn, 1) := by decide +kernel
theorem dX5_time_0 : decode cX5_time 0 = .ok (.aload_n 0, 1) := by decide +kernel
theorem dX5_time_1 : decode cX5_time 1 = .ok (.getfield 10, 3) := by decide +kernel
theorem dX5_time_4 : decode cX5_time 4 = .ok (.getfield 121, 3) := by decide +kernel
theorem dX5_time_7 : decode cX5_time 7 = .ok (.ireturn, 1) := by decide +kernel
set_option maxRecDepth 20000 in
theorem ggX5_axis_X5_isAxis : GoodIn wsX5_axis wsX5_isAxis := goodIn_r _ [6, 7, 8, 5, 9] (by decide +kernel) (by decide +kernel)
set_option maxRecDepth 20000 in
theorem gX5_axis_X5_isAxis : GoodIn wsX5_axis (va_wsS RX5 87 yX5_isAxis wsX5_isAxis) := goodIn_app (goodIn_of _ (by decide +kernel)) ggX5_axis_X5_isAxis
set_option maxRecDepth 20000 in
theorem ggX5_axis_X5_isWithin : GoodIn wsX5_axis wsX5_isWithin := goodIn_r _ [9] (by decide +kernel) (by decide +kernel)
set_option maxRecDepth 20000 in
theorem gX5_axis_X5_isWithin : GoodIn wsX5_axis (va_wsS RX5 45 yX5_isWithin wsX5_isWithin) := goodIn_app (goodIn_of _ (by decide +kernel)) ggX5_axis_X5_isWithin
set_option maxRecDepth 20000 in
theorem ggX5_axis_X0_number : GoodIn wsX5_axis wsX0_number := goodIn_r _ [14, 15, 16, 17, 18, 19, 20, 21, 22, 23, 13, 24, 25, 5, 26, 27, 28, 29, 30, 31, 32, 33, 34, 35, 36, 37, 38, 44, 45, 46, 47, 48, 49, 50, 51, 52, 53, 54, 55, 56, 57, 58, 59, 60] (by decide +kernel) (by decide +kernel)
set_option maxRecDepth 20000 in
theorem gX5_axis_X0_number : GoodIn wsX5_axis (wsV RX5 138 RX0 yX0_number wsX0_number) := goodIn_app (goodIn_of _ (by decide +kernel)) ggX5_axis_X0_number
theorem dX5_axis_0 : decode cX5_axis 0 = .ok (.iload_n 1, 1) := by decide +kernel
theorem dX5_axis_1 : decode cX5_axis 1 = .ok (.invokestatic 87, 3) := by decide +kernel
theorem dX5_axis_4 : decode cX5_axis 4 = .ok (.ifCond .eq 13, 3) := by decide +kernel
theorem dX5_axis_7 : decode cX5_axis 7 = .ok (.iload_n 2, 1) := by decide +kernel
theorem dX5_axis_8 : decode cX5_axis 8 = .ok (.iconst 0, 1) := by decide +kernel
theorem dX5_axis_9 : decode cX5_axis 9 = .ok (.bipush 9, 2) := by decide +kernel
theorem dX5_axis_11 : decode cX5_axis 11 = .ok (.invokestatic 45, 3) := by decide +kernel
theorem dX5_axis_14 : decode cX5_axis 14 = .ok (.ifCond .ne 7, 3) := by decide +kernel
theorem dX5_axis_17 : decode cX5_axis 17 = .ok (.ldc2_w 111, 3) := by decide +kernel
theorem dX5_axis_20 : decode cX5_axis 20 = .ok (.lreturn, 1) := by decide +kernel
theorem dX5_axis_21 : decode cX5_axis 21 = .ok (.aload_n 0, 1) := by decide +kernel
theorem dX5_axis_22 : decode cX5_axis 22 = .ok (.getfield 10, 3) := by decide +kernel
theorem dX5_axis_25 : decode cX5_axis 25 = .ok (.iload_n 1, 1) := by decide +kernel
theorem dX5_axis_26 : decode cX5_axis 26 = .ok (.iload_n 2, 1) := by decide +kernel
theorem dX5_axis_27 : decode cX5_axis 27 = .ok (.invokevirtual 138, 3) := by decide +kernel
theorem dX5_axis_30 : decode cX5_axis 30 = .ok (.lreturn, 1) := by decide +kernel
set_option maxRecDepth 20000 in
theorem ggX5_span_X3_measure : GoodIn wsX5_span wsX3_measure := goodIn_r _ [9, 10, 11, 12, 13, 14, 15, 16, 17, 18, 19, 8, 20, 21, 22, 23, 24, 25, 26, 27, 33, 34, 35, 36, 37, 38, 39, 40, 41, 42, 43, 44, 45, 46, 47, 48, 49, 50, 51, 52, 53] (by decide +kernel) (by decide +kernel)
set_option maxRecDepth 20000 in
theorem gX5_span_X3_measure : GoodIn wsX5_span (wsV RX5 127 RX3 yX3_measure wsX3_measure) := goodIn_app (goodIn_of _ (by decide +kernel)) ggX5_span_X3_measure
theorem dX5_span_0 : decode cX5_span 0 = .ok (.aload_n 0, 1) := by decide +kernel
theorem dX5_span_1 : decode cX5_span 1 = .ok (.getfield 22, 3) := by decide +kernel
theorem dX5_span_4 : decode cX5_span 4 = .ok (.aload_n 0, 1) := by decide +kernel
theorem dX5_span_5 : decode cX5_span 5 = .ok (.getfield 10, 3) := by decide +kernel
theorem dX5_span_8 : decode cX5_span 8 = .ok (.ldc 126, 2) := by decide +kernel
theorem dX5_span_10 : decode cX5_span 10 = .ok (.invokevirtual 127, 3) := by decide +kernel
theorem dX5_span_13 : decode cX5_span 13 = .ok (.aload_n 0, 1) := by decide +kernel
theorem dX5_span_14 : decode cX5_span 14 = .ok (.getfield 22, 3) := by decide +kernel
theorem dX5_span_17 : decode cX5_span 17 = .ok (.getfield 141, 3) := by decide +kernel
theorem dX5_span_20 : decode cX5_span 20 = .ok (.lreturn, 1) := by decide +kernel
set_option maxRecDepth 20000 in
theorem ggX5_wish_X5_isWheel : GoodIn wsX5_wish wsX5_isWheel := goodIn_r _ [11, 2, 12, 13, 14, 10, 15, 62, 63, 64, 65, 66, 67, 68, 69, 70, 71, 72, 73, 74, 75, 76, 77] (by decide +kernel) (by decide +kernel)
set_option maxRecDepth 20000 in
theorem gX5_wish_X5_isWheel : GoodIn wsX5_wish (wsV RX5 69 RX5 yX5_isWheel wsX5_isWheel) := goodIn_app (goodIn_of _ (by decide +kernel)) ggX5_wish_X5_isWheel
set_option maxRecDepth 20000 in
theorem ggX5_wish_X5_isTorque : GoodIn wsX5_wish wsX5_isTorque := goodIn_r _ [18, 19, 20, 13, 14, 10, 15] (by decide +kernel) (by decide +kernel)
set_option maxRecDepth 20000 in
theorem gX5_wish_X5_isTorque : GoodIn wsX5_wish (va_wsS RX5 145 yX5_isTorque wsX5_isTorque) := goodIn_app (goodIn_of _ (by decide +kernel)) ggX5_wish_X5_isTorque
set_option maxRecDepth 20000 in
theorem ggX5_wish_X3_measure : GoodIn wsX5_wish wsX3_measure := goodIn_r _ [25, 26, 27, 28, 29, 30, 31, 32, 33, 34, 35, 24, 36, 37, 38, 39, 40, 41, 10, 42, 84, 85, 86, 87, 67, 68, 69, 70, 71, 72, 73, 74, 75, 76, 77, 78, 79, 80, 81, 82, 83] (by decide +kernel) (by decide +kernel)
set_option maxRecDepth 20000 in
theorem gX5_wish_X3_measure : GoodIn wsX5_wish (wsV RX5 127 RX3 yX3_measure wsX3_measure) := goodIn_app (goodIn_of _ (by decide +kernel)) ggX5_wish_X3_measure
set_option maxRecDepth 20000 in
theorem ggX5_wish_X3_spans : GoodIn wsX5_wish wsX3_spans := goodIn_r _ [46, 31, 84, 85, 86, 87] (by decide +kernel) (by decide +kernel)
set_option maxRecDepth 20000 in
theorem gX5_wish_X3_spans : GoodIn wsX5_wish (wsV RX5 148 RX3 yX3_spans wsX3_spans) := goodIn_app (goodIn_of _ (by decide +kernel)) ggX5_wish_X3_spans
set_option maxRecDepth 20000 in
theorem ggX5_wish_X3_aim : GoodIn wsX5_wish wsX3_aim := goodIn_r _ [50, 51, 32, 84, 85, 86, 87] (by decide +kernel) (by decide +kernel)
set_option maxRecDepth 20000 in
theorem gX5_wish_X3_aim : GoodIn wsX5_wish (wsV RX5 151 RX3 yX3_aim wsX3_aim) := goodIn_app (goodIn_of _ (by decide +kernel)) ggX5_wish_X3_aim
set_option maxRecDepth 20000 in
theorem ggX5_wish_X3_wishOf : GoodIn wsX5_wish wsX3_wishOf := goodIn_r _ [55, 30, 51, 31, 56, 57, 44, 45, 24, 46, 58, 59, 60, 61, 78, 79, 80, 81, 82, 83, 84, 85, 86, 87] (by decide +kernel) (by decide +kernel)
set_option maxRecDepth 20000 in
theorem gX5_wish_X3_wishOf : GoodIn wsX5_wish (wsV RX5 155 RX3 yX3_wishOf wsX3_wishOf) := goodIn_app (goodIn_of _ (by decide +kernel)) ggX5_wish_X3_wishOf
theorem dX5_wish_0 : decode cX5_wish 0 = .ok (.aload_n 0, 1) := by decide +kernel
theorem dX5_wish_1 : decode cX5_wish 1 = .ok (.iload_n 1, 1) := by decide +kernel
theorem dX5_wish_2 : decode cX5_wish 2 = .ok (.invokevirtual 69, 3) := by decide +kernel
theorem dX5_wish_5 : decode cX5_wish 5 = .ok (.ifCond .eq 25, 3) := by decide +kernel
theorem dX5_wish_8 : decode cX5_wish 8 = .ok (.iload_n 2, 1) := by decide +kernel
theorem dX5_wish_9 : decode cX5_wish 9 = .ok (.invokestatic 145, 3) := by decide +kernel
theorem dX5_wish_12 : decode cX5_wish 12 = .ok (.ifCond .eq 18, 3) := by decide +kernel
theorem dX5_wish_15 : decode cX5_wish 15 = .ok (.iload_n 3, 1) := by decide +kernel
theorem dX5_wish_16 : decode cX5_wish 16 = .ok (.invokestatic 145, 3) := by decide +kernel
theorem dX5_wish_19 : decode cX5_wish 19 = .ok (.ifCond .eq 11, 3) := by decide +kernel
theorem dX5_wish_22 : decode cX5_wish 22 = .ok (.iload 4, 2) := by decide +kernel
theorem dX5_wish_24 : decode cX5_wish 24 = .ok (.invokestatic 145, 3) := by decide +kernel
theorem dX5_wish_27 : decode cX5_wish 27 = .ok (.ifCond .ne 7, 3) := by decide +kernel
theorem dX5_wish_30 : decode cX5_wish 30 = .ok (.ldc2_w 111, 3) := by decide +kernel
theorem dX5_wish_33 : decode cX5_wish 33 = .ok (.lreturn, 1) := by decide +kernel
theorem dX5_wish_34 : decode cX5_wish 34 = .ok (.aload_n 0, 1) := by decide +kernel
theorem dX5_wish_35 : decode cX5_wish 35 = .ok (.getfield 10, 3) := by decide +kernel
theorem dX5_wish_38 : decode cX5_wish 38 = .ok (.getfield 59, 3) := by decide +kernel
theorem dX5_wish_41 : decode cX5_wish 41 = .ok (.iload_n 1, 1) := by decide +kernel
theorem dX5_wish_42 : decode cX5_wish 42 = .ok (.aaload, 1) := by decide +kernel
theorem dX5_wish_43 : decode cX5_wish 43 = .ok (.astore 5, 2) := by decide +kernel
theorem dX5_wish_45 : decode cX5_wish 45 = .ok (.aload_n 0, 1) := by decide +kernel
theorem dX5_wish_46 : decode cX5_wish 46 = .ok (.getfield 22, 3) := by decide +kernel
theorem dX5_wish_49 : decode cX5_wish 49 = .ok (.aload_n 0, 1) := by decide +kernel
theorem dX5_wish_50 : decode cX5_wish 50 = .ok (.getfield 10, 3) := by decide +kernel
theorem dX5_wish_53 : decode cX5_wish 53 = .ok (.ldc 126, 2) := by decide +kernel
theorem dX5_wish_55 : decode cX5_wish 55 = .ok (.invokevirtual 127, 3) := by decide +kernel
theorem dX5_wish_58 : decode cX5_wish 58 = .ok (.aload 5, 2) := by decide +kernel
theorem dX5_wish_60 : decode cX5_wish 60 = .ok (.getfield 73, 3) := by decide +kernel
theorem dX5_wish_63 : decode cX5_wish 63 = .ok (.ifCond .ne 13, 3) := by decide +kernel
theorem dX5_wish_66 : decode cX5_wish 66 = .ok (.aload_n 0, 1) := by decide +kernel
theorem dX5_wish_67 : decode cX5_wish 67 = .ok (.getfield 22, 3) := by decide +kernel
theorem dX5_wish_70 : decode cX5_wish 70 = .ok (.invokevirtual 148, 3) := by decide +kernel
theorem dX5_wish_73 : decode cX5_wish 73 = .ok (.ifCond .ne 7, 3) := by decide +kernel
theorem dX5_wish_76 : decode cX5_wish 76 = .ok (.ldc2_w 111, 3) := by decide +kernel
theorem dX5_wish_79 : decode cX5_wish 79 = .ok (.lreturn, 1) := by decide +kernel
theorem dX5_wish_80 : decode cX5_wish 80 = .ok (.aload_n 0, 1) := by decide +kernel
theorem dX5_wish_81 : decode cX5_wish 81 = .ok (.getfield 22, 3) := by decide +kernel
theorem dX5_wish_84 : decode cX5_wish 84 = .ok (.iload_n 2, 1) := by decide +kernel
theorem dX5_wish_85 : decode cX5_wish 85 = .ok (.i2l, 1) := by decide +kernel
theorem dX5_wish_86 : decode cX5_wish 86 = .ok (.iload_n 3, 1) := by decide +kernel
theorem dX5_wish_87 : decode cX5_wish 87 = .ok (.i2l, 1) := by decide +kernel
theorem dX5_wish_88 : decode cX5_wish 88 = .ok (.iload 4, 2) := by decide +kernel
theorem dX5_wish_90 : decode cX5_wish 90 = .ok (.i2l, 1) := by decide +kernel
theorem dX5_wish_91 : decode cX5_wish 91 = .ok (.invokevirtual 151, 3) := by decide +kernel
theorem dX5_wish_94 : decode cX5_wish 94 = .ok (.aload_n 0, 1) := by decide +kernel
theorem dX5_wish_95 : decode cX5_wish 95 = .ok (.getfield 22, 3) := by decide +kernel
theorem dX5_wish_98 : decode cX5_wish 98 = .ok (.aload 5, 2) := by decide +kernel
theorem dX5_wish_100 : decode cX5_wish 100 = .ok (.invokevirtual 155, 3) := by decide +kernel
theorem dX5_wish_103 : decode cX5_wish 103 = .ok (.lreturn, 1) := by decide +kernel
theorem dX5_why_0 : decode cX5_why 0 = .ok (.iload_n 1, 1) := by decide +kernel
theorem dX5_why_1 : decode cX5_why 1 = .ok (.ifCond .ge 6, 3) := by decide +kernel
theorem dX5_why_4 : decode cX5_why 4 = .ok (.ldc 49, 2) := by decide +kernel
theorem dX5_why_6 : decode cX5_why 6 = .ok (.ireturn, 1) := by decide +kernel
theorem dX5_why_7 : decode cX5_why 7 = .ok (.iload_n 1, 1) := by decide +kernel
theorem dX5_why_8 : decode cX5_why 8 = .ok (.aload_n 0, 1) := by decide +kernel
theorem dX5_why_9 : decode cX5_why 9 = .ok (.getfield 10, 3) := by decide +kernel
theorem dX5_why_12 : decode cX5_why 12 = .ok (.getfield 159, 3) := by decide +kernel
theorem dX5_why_15 : decode cX5_why 15 = .ok (.if_icmp .ge 15, 3) := by decide +kernel
theorem dX5_why_18 : decode cX5_why 18 = .ok (.aload_n 0, 1) := by decide +kernel
theorem dX5_why_19 : decode cX5_why 19 = .ok (.getfield 10, 3) := by decide +kernel
theorem dX5_why_22 : decode cX5_why 22 = .ok (.getfield 162, 3) := by decide +kernel
theorem dX5_why_25 : decode cX5_why 25 = .ok (.iload_n 1, 1) := by decide +kernel
theorem dX5_why_26 : decode cX5_why 26 = .ok (.iaload, 1) := by decide +kernel
theorem dX5_why_27 : decode cX5_why 27 = .ok (.goto 5, 3) := by decide +kernel
theorem dX5_why_30 : decode cX5_why 30 = .ok (.ldc 126, 2) := by decide +kernel
theorem dX5_why_32 : decode cX5_why 32 = .ok (.ireturn, 1) := by decide +kernel
set_option maxRecDepth 20000 in
theorem ggX5_fullness_X4_fullPart : GoodIn wsX5_fullness wsX4_fullPart := goodIn_r _ [8, 9, 10, 11, 12, 13, 14, 31, 32, 33, 34, 35, 36] (by decide +kernel) (by decide +kernel)
set_option maxRecDepth 20000 in
theorem gX5_fullness_X4_fullPart : GoodIn wsX5_fullness (wsV RX5 165 RX4 yX4_fullPart wsX4_fullPart) := goodIn_app (goodIn_of _ (by decide +kernel)) ggX5_fullness_X4_fullPart
theorem dX5_fullness_0 : decode cX5_fullness 0 = .ok (.fconst 0, 1) := by decide +kernel
theorem dX5_fullness_1 : decode cX5_fullness 1 = .ok (.fstore_n 1, 1) := by decide +kernel
theorem dX5_fullness_2 : decode cX5_fullness 2 = .ok (.iconst 0, 1) := by decide +kernel
theorem dX5_fullness_3 : decode cX5_fullness 3 = .ok (.istore_n 2, 1) := by decide +kernel
theorem dX5_fullness_4 : decode cX5_fullness 4 = .ok (.iload_n 2, 1) := by decide +kernel
theorem dX5_fullness_5 : decode cX5_fullness 5 = .ok (.aload_n 0, 1) := by decide +kernel
theorem dX5_fullness_6 : decode cX5_fullness 6 = .ok (.getfield 10, 3) := by decide +kernel
theorem dX5_fullness_9 : decode cX5_fullness 9 = .ok (.getfield 50, 3) := by decide +kernel
theorem dX5_fullness_12 : decode cX5_fullness 12 = .ok (.if_icmp .ge 34, 3) := by decide +kernel
theorem dX5_fullness_15 : decode cX5_fullness 15 = .ok (.aload_n 0, 1) := by decide +kernel
theorem dX5_fullness_16 : decode cX5_fullness 16 = .ok (.getfield 10, 3) := by decide +kernel
theorem dX5_fullness_19 : decode cX5_fullness 19 = .ok (.getfield 59, 3) := by decide +kernel
theorem dX5_fullness_22 : decode cX5_fullness 22 = .ok (.iload_n 2, 1) := by decide +kernel
theorem dX5_fullness_23 : decode cX5_fullness 23 = .ok (.aaload, 1) := by decide +kernel
theorem dX5_fullness_24 : decode cX5_fullness 24 = .ok (.invokevirtual 165, 3) := by decide +kernel
theorem dX5_fullness_27 : decode cX5_fullness 27 = .ok (.fstore_n 3, 1) := by decide +kernel
theorem dX5_fullness_28 : decode cX5_fullness 28 = .ok (.fload_n 3, 1) := by decide +kernel
theorem dX5_fullness_29 : decode cX5_fullness 29 = .ok (.fload_n 1, 1) := by decide +kernel
theorem dX5_fullness_30 : decode cX5_fullness 30 = .ok (.fcmp .l, 1) := by decide +kernel
theorem dX5_fullness_31 : decode cX5_fullness 31 = .ok (.ifCond .le 7, 3) := by decide +kernel
theorem dX5_fullness_34 : decode cX5_fullness 34 = .ok (.fload_n 3, 1) := by decide +kernel
theorem dX5_fullness_35 : decode cX5_fullness 35 = .ok (.goto 4, 3) := by decide +kernel
theorem dX5_fullness_38 : decode cX5_fullness 38 = .ok (.fload_n 1, 1) := by decide +kernel
theorem dX5_fullness_39 : decode cX5_fullness 39 = .ok (.fstore_n 1, 1) := by decide +kernel
theorem dX5_fullness_40 : decode cX5_fullness 40 = .ok (.iinc 2 1, 3) := by decide +kernel
theorem dX5_fullness_43 : decode cX5_fullness 43 = .ok (.goto (-39), 3) := by decide +kernel
theorem dX5_fullness_46 : decode cX5_fullness 46 = .ok (.fload_n 1, 1) := by decide +kernel
theorem dX5_fullness_47 : decode cX5_fullness 47 = .ok (.freturn, 1) := by decide +kernel
set_option maxRecDepth 20000 in
theorem ggX5_arrives_X5_isWithin : GoodIn wsX5_arrives wsX5_isWithin := goodIn_r _ [10] (by decide +kernel) (by decide +kernel)
set_option maxRecDepth 20000 in
theorem gX5_arrives_X5_isWithin : GoodIn wsX5_arrives (va_wsS RX5 45 yX5_isWithin wsX5_isWithin) := goodIn_app (goodIn_of _ (by decide +kernel)) ggX5_arrives_X5_isWithin
set_option maxRecDepth 20000 in
theorem ggX5_arrives_X0_become : GoodIn wsX5_arrives wsX0_become := goodIn_r _ [15, 16, 17, 18, 19, 20, 21, 22, 23, 24, 25, 26, 27, 28, 29, 30, 31, 32, 33, 34, 35, 36, 37, 38, 39, 40, 41, 42, 196, 197, 198, 199, 200, 201, 202, 203, 204, 205, 206, 207, 208, 209, 210, 211, 212] (by decide +kernel) (by decide +kernel)
set_option maxRecDepth 20000 in
theorem gX5_arrives_X0_become : GoodIn wsX5_arrives (wsV RX5 169 RX0 yX0_become wsX0_become) := goodIn_app (goodIn_of _ (by decide +kernel)) ggX5_arrives_X0_become
set_option maxRecDepth 20000 in
theorem ggX5_arrives_X3_measure : GoodIn wsX5_arrives wsX3_measure := goodIn_r _ [47, 48, 49, 50, 51, 52, 53, 54, 55, 56, 57, 46, 58, 59, 60, 61, 62, 63, 9, 64, 213, 214, 215, 216, 196, 197, 198, 199, 200, 201, 202, 203, 204, 205, 206, 207, 208, 209, 210, 211, 212] (by decide +kernel) (by decide +kernel)
set_option maxRecDepth 20000 in
theorem gX5_arrives_X3_measure : GoodIn wsX5_arrives (wsV RX5 127 RX3 yX3_measure wsX3_measure) := goodIn_app (goodIn_of _ (by decide +kernel)) ggX5_arrives_X3_measure
set_option maxRecDepth 20000 in
theorem ggX5_arrives_X0_isOnTarget : GoodIn wsX5_arrives wsX0_isOnTarget := goodIn_r _ [68, 69, 70, 71, 72, 73, 74, 75, 14, 76, 22, 23, 77, 78, 79, 80, 24, 81, 9, 82, 83, 84, 85, 86, 196, 197, 198, 199, 200, 201, 202, 203, 204, 205, 206] (by decide +kernel) (by decide +kernel)
set_option maxRecDepth 20000 in
theorem gX5_arrives_X0_isOnTarget : GoodIn wsX5_arrives (wsV RX5 172 RX0 yX0_isOnTarget wsX0_isOnTarget) := goodIn_app (goodIn_of _ (by decide +kernel)) ggX5_arrives_X0_isOnTarget
set_option maxRecDepth 20000 in
theorem ggX5_arrives_X5_passOne : GoodIn wsX5_arrives wsX5_passOne := goodIn_r _ [90, 91, 5, 92, 93, 94, 95, 14, 96, 17, 22, 23, 97, 26, 81, 9, 82, 83, 84, 85, 86, 98, 99, 77, 78, 79, 80, 24, 100, 101, 102, 46, 103, 49, 50, 104, 105, 51, 106, 107, 108, 109, 53, 110, 111, 112, 113, 29, 30, 27, 28, 114, 115, 116, 117, 118, 119, 120, 121, 122, 123, 54, 124, 125, 126, 127, 128, 129, 52, 130, 131, 132, 133, 134, 135, 136, 137, 138, 34, 139, 40, 140, 141, 142, 143, 39, 38, 144, 145, 71, 146, 147, 148, 149, 150, 151, 152, 153, 154, 155, 156, 157, 158, 159, 160, 161, 162, 163, 164, 165, 166, 167, 168, 169, 170, 171, 172, 173, 174, 175, 176, 177, 63, 64, 178, 179, 180, 181, 25, 182, 183, 184, 185, 186, 187, 188, 189, 190, 196, 197, 198, 199, 200, 201, 202, 203, 204, 205, 206, 191, 192, 193, 194, 195, 207, 208, 209, 210, 211, 212, 213, 214, 215, 216, 217, 218] (by decide +kernel) (by decide +kernel)
set_option maxRecDepth 20000 in
theorem gX5_arrives_X5_passOne : GoodIn wsX5_arrives (wsV RX5 131 RX5 yX5_passOne wsX5_passOne) := goodIn_app (goodIn_of _ (by decide +kernel)) ggX5_arrives_X5_passOne
theorem dX5_arrives_0 : decode cX5_arrives 0 = .ok (.iload_n 1, 1) := by decide +kernel
theorem dX5_arrives_1 : decode cX5_arrives 1 = .ok (.iconst 0, 1) := by decide +kernel
theorem dX5_arrives_2 : decode cX5_arrives 2 = .ok (.ldc 44, 2) := by decide +kernel
theorem dX5_arrives_4 : decode cX5_arrives 4 = .ok (.invokestatic 45, 3) := by decide +kernel
theorem dX5_arrives_7 : decode cX5_arrives 7 = .ok (.ifCond .ne 6, 3) := by decide +kernel
theorem dX5_arrives_10 : decode cX5_arrives 10 = .ok (.ldc 49, 2) := by decide +kernel
theorem dX5_arrives_12 : decode cX5_arrives 12 = .ok (.ireturn, 1) := by decide +kernel
theorem dX5_arrives_13 : decode cX5_arrives 13 = .ok (.aload_n 0, 1) := by decide +kernel
theorem dX5_arrives_14 : decode cX5_arrives 14 = .ok (.getfield 16, 3) := by decide +kernel
theorem dX5_arrives_17 : decode cX5_arrives 17 = .ok (.aload_n 0, 1) := by decide +kernel
theorem dX5_arrives_18 : decode cX5_arrives 18 = .ok (.getfield 10, 3) := by decide +kernel
theorem dX5_arrives_21 : decode cX5_arrives 21 = .ok (.invokevirtual 169, 3) := by decide +kernel
theorem dX5_arrives_24 : decode cX5_arrives 24 = .ok (.aload_n 0, 1) := by decide +kernel
theorem dX5_arrives_25 : decode cX5_arrives 25 = .ok (.getfield 22, 3) := by decide +kernel
theorem dX5_arrives_28 : decode cX5_arrives 28 = .ok (.aload_n 0, 1) := by decide +kernel
theorem dX5_arrives_29 : decode cX5_arrives 29 = .ok (.getfield 16, 3) := by decide +kernel
theorem dX5_arrives_32 : decode cX5_arrives 32 = .ok (.ldc 126, 2) := by decide +kernel
theorem dX5_arrives_34 : decode cX5_arrives 34 = .ok (.invokevirtual 127, 3) := by decide +kernel
theorem dX5_arrives_37 : decode cX5_arrives 37 = .ok (.iconst 0, 1) := by decide +kernel
theorem dX5_arrives_38 : decode cX5_arrives 38 = .ok (.istore_n 2, 1) := by decide +kernel
theorem dX5_arrives_39 : decode cX5_arrives 39 = .ok (.iload_n 2, 1) := by decide +kernel
theorem dX5_arrives_40 : decode cX5_arrives 40 = .ok (.sipush 500, 3) := by decide +kernel
theorem dX5_arrives_43 : decode cX5_arrives 43 = .ok (.if_icmp .gt 30, 3) := by decide +kernel
theorem dX5_arrives_46 : decode cX5_arrives 46 = .ok (.aload_n 0, 1) := by decide +kernel
theorem dX5_arrives_47 : decode cX5_arrives 47 = .ok (.getfield 16, 3) := by decide +kernel
theorem dX5_arrives_50 : decode cX5_arrives 50 = .ok (.iload_n 1, 1) := by decide +kernel
theorem dX5_arrives_51 : decode cX5_arrives 51 = .ok (.invokevirtual 172, 3) := by decide +kernel
theorem dX5_arrives_54 : decode cX5_arrives 54 = .ok (.ifCond .eq 5, 3) := by decide +kernel
theorem dX5_arrives_57 : decode cX5_arrives 57 = .ok (.iload_n 2, 1) := by decide +kernel
theorem dX5_arrives_58 : decode cX5_arrives 58 = .ok (.ireturn, 1) := by decide +kernel
theorem dX5_arrives_59 : decode cX5_arrives 59 = .ok (.aload_n 0, 1) := by decide +kernel
theorem dX5_arrives_60 : decode cX5_arrives 60 = .ok (.aload_n 0, 1) := by decide +kernel
theorem dX5_arrives_61 : decode cX5_arrives 61 = .ok (.getfield 16, 3) := by decide +kernel
theorem dX5_arrives_64 : decode cX5_arrives 64 = .ok (.invokevirtual 131, 3) := by decide +kernel
theorem dX5_arrives_67 : decode cX5_arrives 67 = .ok (.iinc 2 1, 3) := by decide +kernel
theorem dX5_arrives_70 : decode cX5_arrives 70 = .ok (.goto (-31), 3) := by decide +kernel
theorem dX5_arrives_73 : decode cX5_arrives 73 = .ok (.ldc 126, 2) := by decide +kernel
theorem dX5_arrives_75 : decode cX5_arrives 75 = .ok (.ireturn, 1) := by decide +kernel
set_option maxRecDepth 20000 in
theorem ggX5_spare_X3_measure : GoodIn wsX5_spare wsX3_measure := goodIn_r _ [10, 11, 12, 13, 14, 15, 16, 17, 18, 19, 20, 9, 21, 22, 23, 24, 25, 26, 27, 28, 55, 56, 57, 58, 38, 39, 40, 41, 42, 43, 44, 45, 46, 47, 48, 49, 50, 51, 52, 53, 54] (by decide +kernel) (by decide +kernel)
set_option maxRecDepth 20000 in
theorem gX5_spare_X3_measure : GoodIn wsX5_spare (wsV RX5 127 RX3 yX3_measure wsX3_measure) := goodIn_app (goodIn_of _ (by decide +kernel)) ggX5_spare_X3_measure
set_option maxRecDepth 20000 in
theorem ggX5_spare_X3_spans : GoodIn wsX5_spare wsX3_spans := goodIn_r _ [32, 16, 55, 56, 57, 58] (by decide +kernel) (by decide +kernel)
set_option maxRecDepth 20000 in
theorem gX5_spare_X3_spans : GoodIn wsX5_spare (wsV RX5 148 RX3 yX3_spans wsX3_spans) := goodIn_app (goodIn_of _ (by decide +kernel)) ggX5_spare_X3_spans
theorem dX5_spare_0 : decode cX5_spare 0 = .ok (.iconst 0, 1) := by decide +kernel
theorem dX5_spare_1 : decode cX5_spare 1 = .ok (.istore_n 1, 1) := by decide +kernel
theorem dX5_spare_2 : decode cX5_spare 2 = .ok (.iconst 0, 1) := by decide +kernel
theorem dX5_spare_3 : decode cX5_spare 3 = .ok (.istore_n 2, 1) := by decide +kernel
theorem dX5_spare_4 : decode cX5_spare 4 = .ok (.iload_n 2, 1) := by decide +kernel
theorem dX5_spare_5 : decode cX5_spare 5 = .ok (.aload_n 0, 1) := by decide +kernel
theorem dX5_spare_6 : decode cX5_spare 6 = .ok (.getfield 10, 3) := by decide +kernel
theorem dX5_spare_9 : decode cX5_spare 9 = .ok (.getfield 50, 3) := by decide +kernel
theorem dX5_spare_12 : decode cX5_spare 12 = .ok (.if_icmp .ge 52, 3) := by decide +kernel
theorem dX5_spare_15 : decode cX5_spare 15 = .ok (.aload_n 0, 1) := by decide +kernel
theorem dX5_spare_16 : decode cX5_spare 16 = .ok (.getfield 22, 3) := by decide +kernel
theorem dX5_spare_19 : decode cX5_spare 19 = .ok (.aload_n 0, 1) := by decide +kernel
theorem dX5_spare_20 : decode cX5_spare 20 = .ok (.getfield 10, 3) := by decide +kernel
theorem dX5_spare_23 : decode cX5_spare 23 = .ok (.iload_n 2, 1) := by decide +kernel
theorem dX5_spare_24 : decode cX5_spare 24 = .ok (.invokevirtual 127, 3) := by decide +kernel
theorem dX5_spare_27 : decode cX5_spare 27 = .ok (.aload_n 0, 1) := by decide +kernel
theorem dX5_spare_28 : decode cX5_spare 28 = .ok (.getfield 10, 3) := by decide +kernel
theorem dX5_spare_31 : decode cX5_spare 31 = .ok (.getfield 59, 3) := by decide +kernel
theorem dX5_spare_34 : decode cX5_spare 34 = .ok (.iload_n 2, 1) := by decide +kernel
theorem dX5_spare_35 : decode cX5_spare 35 = .ok (.aaload, 1) := by decide +kernel
theorem dX5_spare_36 : decode cX5_spare 36 = .ok (.getfield 73, 3) := by decide +kernel
theorem dX5_spare_39 : decode cX5_spare 39 = .ok (.ifCond .ne 19, 3) := by decide +kernel
theorem dX5_spare_42 : decode cX5_spare 42 = .ok (.aload_n 0, 1) := by decide +kernel
theorem dX5_spare_43 : decode cX5_spare 43 = .ok (.getfield 22, 3) := by decide +kernel
theorem dX5_spare_46 : decode cX5_spare 46 = .ok (.invokevirtual 148, 3) := by decide +kernel
theorem dX5_spare_49 : decode cX5_spare 49 = .ok (.ifCond .eq 9, 3) := by decide +kernel
theorem dX5_spare_52 : decode cX5_spare 52 = .ok (.iload_n 1, 1) := by decide +kernel
theorem dX5_spare_53 : decode cX5_spare 53 = .ok (.iconst 1, 1) := by decide +kernel
theorem dX5_spare_54 : decode cX5_spare 54 = .ok (.iload_n 2, 1) := by decide +kernel
theorem dX5_spare_55 : decode cX5_spare 55 = .ok (.ishl, 1) := by decide +kernel
theorem dX5_spare_56 : decode cX5_spare 56 = .ok (.ior, 1) := by decide +kernel
theorem dX5_spare_57 : decode cX5_spare 57 = .ok (.istore_n 1, 1) := by decide +kernel
theorem dX5_spare_58 : decode cX5_spare 58 = .ok (.iinc 2 1, 3) := by decide +kernel
theorem dX5_spare_61 : decode cX5_spare 61 = .ok (.goto (-57), 3) := by decide +kernel
theorem dX5_spare_64 : decode cX5_spare 64 = .ok (.iload_n 1, 1) := by decide +kernel
theorem dX5_spare_65 : decode cX5_spare 65 = .ok (.ireturn, 1) := by decide +kernel
set_option maxRecDepth 20000 in
theorem ggX5_gravest_X5_isWithin : GoodIn wsX5_gravest wsX5_isWithin := goodIn_r _ [10] (by decide +kernel) (by decide +kernel)
set_option maxRecDepth 20000 in
theorem gX5_gravest_X5_isWithin : GoodIn wsX5_gravest (va_wsS RX5 45 yX5_isWithin wsX5_isWithin) := goodIn_app (goodIn_of _ (by decide +kernel)) ggX5_gravest_X5_isWithin
set_option maxRecDepth 20000 in
theorem ggX5_gravest_X5_offWithout : GoodIn wsX5_gravest wsX5_offWithout := goodIn_r _ [14, 15, 3, 5, 6, 16, 2, 17, 18, 19, 20, 21, 22, 23, 24, 25, 26, 27, 28, 29, 30, 31, 32, 33, 34, 35, 36, 37, 38, 39, 40, 41, 42, 43, 44, 45, 46, 47, 48, 49, 50, 51, 52, 53, 54, 55, 56, 57, 58, 59, 60, 61, 62, 63, 64, 65, 66, 67, 68, 69, 9, 70, 71, 72, 73, 74, 75, 76, 77, 78, 79, 80, 81, 82, 83, 84, 85, 86, 87, 88, 89, 90, 91, 92, 93, 94, 95, 96, 97, 98, 99, 100, 101, 102, 103, 104, 105, 106, 107, 108, 109, 110, 111, 112, 113, 114, 115, 116, 117, 118, 119, 120, 121, 122, 123, 124, 125, 126, 127, 128, 129, 130, 131, 132, 133, 134, 135, 136, 137, 138, 139, 140, 141, 142, 143, 144, 145, 146, 147, 148, 149, 150, 151, 152, 153, 154, 155, 156, 157, 158, 159, 160, 161, 162, 163, 164, 165, 166, 167, 168, 169, 170, 171, 172, 173, 174, 175, 176, 177, 178, 179, 180, 181, 182, 183, 184, 185, 186, 187, 188, 189, 190, 191, 192, 193, 194, 195, 196, 197, 198, 199, 200, 201, 202, 203, 204, 205, 206, 207, 208, 209, 210, 211, 212, 213, 214, 215, 216, 217, 218, 219, 220, 221, 222, 223, 224] (by decide +kernel) (by decide +kernel)
set_option maxRecDepth 20000 in
theorem gX5_gravest_X5_offWithout : GoodIn wsX5_gravest (wsV RX5 175 RX5 yX5_offWithout wsX5_offWithout) := goodIn_app (goodIn_of _ (by decide +kernel)) ggX5_gravest_X5_offWithout
theorem dX5_gravest_0 : decode cX5_gravest 0 = .ok (.iload_n 1, 1) := by decide +kernel
theorem dX5_gravest_1 : decode cX5_gravest 1 = .ok (.iconst 1, 1) := by decide +kernel
theorem dX5_gravest_2 : decode cX5_gravest 2 = .ok (.bipush 100, 2) := by decide +kernel
theorem dX5_gravest_4 : decode cX5_gravest 4 = .ok (.invokestatic 45, 3) := by decide +kernel
theorem dX5_gravest_7 : decode cX5_gravest 7 = .ok (.ifCond .ne 6, 3) := by decide +kernel
theorem dX5_gravest_10 : decode cX5_gravest 10 = .ok (.ldc 49, 2) := by decide +kernel
theorem dX5_gravest_12 : decode cX5_gravest 12 = .ok (.ireturn, 1) := by decide +kernel
theorem dX5_gravest_13 : decode cX5_gravest 13 = .ok (.ldc 126, 2) := by decide +kernel
theorem dX5_gravest_15 : decode cX5_gravest 15 = .ok (.istore_n 2, 1) := by decide +kernel
theorem dX5_gravest_16 : decode cX5_gravest 16 = .ok (.lconst 0, 1) := by decide +kernel
theorem dX5_gravest_17 : decode cX5_gravest 17 = .ok (.lstore_n 3, 1) := by decide +kernel
theorem dX5_gravest_18 : decode cX5_gravest 18 = .ok (.iconst 0, 1) := by decide +kernel
theorem dX5_gravest_19 : decode cX5_gravest 19 = .ok (.istore 5, 2) := by decide +kernel
theorem dX5_gravest_21 : decode cX5_gravest 21 = .ok (.iload 5, 2) := by decide +kernel
theorem dX5_gravest_23 : decode cX5_gravest 23 = .ok (.aload_n 0, 1) := by decide +kernel
theorem dX5_gravest_24 : decode cX5_gravest 24 = .ok (.getfield 10, 3) := by decide +kernel
theorem dX5_gravest_27 : decode cX5_gravest 27 = .ok (.getfield 50, 3) := by decide +kernel
theorem dX5_gravest_30 : decode cX5_gravest 30 = .ok (.if_icmp .ge 56, 3) := by decide +kernel
theorem dX5_gravest_33 : decode cX5_gravest 33 = .ok (.aload_n 0, 1) := by decide +kernel
theorem dX5_gravest_34 : decode cX5_gravest 34 = .ok (.getfield 10, 3) := by decide +kernel
theorem dX5_gravest_37 : decode cX5_gravest 37 = .ok (.getfield 59, 3) := by decide +kernel
theorem dX5_gravest_40 : decode cX5_gravest 40 = .ok (.iload 5, 2) := by decide +kernel
theorem dX5_gravest_42 : decode cX5_gravest 42 = .ok (.aaload, 1) := by decide +kernel
theorem dX5_gravest_43 : decode cX5_gravest 43 = .ok (.getfield 73, 3) := by decide +kernel
theorem dX5_gravest_46 : decode cX5_gravest 46 = .ok (.ifCond .eq 6, 3) := by decide +kernel
theorem dX5_gravest_49 : decode cX5_gravest 49 = .ok (.goto 31, 3) := by decide +kernel
theorem dX5_gravest_52 : decode cX5_gravest 52 = .ok (.aload_n 0, 1) := by decide +kernel
theorem dX5_gravest_53 : decode cX5_gravest 53 = .ok (.iload 5, 2) := by decide +kernel
theorem dX5_gravest_55 : decode cX5_gravest 55 = .ok (.iload_n 1, 1) := by decide +kernel
theorem dX5_gravest_56 : decode cX5_gravest 56 = .ok (.invokevirtual 175, 3) := by decide +kernel
theorem dX5_gravest_59 : decode cX5_gravest 59 = .ok (.lstore 6, 2) := by decide +kernel
theorem dX5_gravest_61 : decode cX5_gravest 61 = .ok (.iload_n 2, 1) := by decide +kernel
theorem dX5_gravest_62 : decode cX5_gravest 62 = .ok (.ldc 126, 2) := by decide +kernel
theorem dX5_gravest_64 : decode cX5_gravest 64 = .ok (.if_icmp .eq 10, 3) := by decide +kernel
theorem dX5_gravest_67 : decode cX5_gravest 67 = .ok (.lload 6, 2) := by decide +kernel
theorem dX5_gravest_69 : decode cX5_gravest 69 = .ok (.lload_n 3, 1) := by decide +kernel
theorem dX5_gravest_70 : decode cX5_gravest 70 = .ok (.lcmp, 1) := by decide +kernel
theorem dX5_gravest_71 : decode cX5_gravest 71 = .ok (.ifCond .le 9, 3) := by decide +kernel
theorem dX5_gravest_74 : decode cX5_gravest 74 = .ok (.iload 5, 2) := by decide +kernel
theorem dX5_gravest_76 : decode cX5_gravest 76 = .ok (.istore_n 2, 1) := by decide +kernel
theorem dX5_gravest_77 : decode cX5_gravest 77 = .ok (.lload 6, 2) := by decide +kernel
theorem dX5_gravest_79 : decode cX5_gravest 79 = .ok (.lstore_n 3, 1) := by decide +kernel
theorem dX5_gravest_80 : decode cX5_gravest 80 = .ok (.iinc 5 1, 3) := by decide +kernel
theorem dX5_gravest_83 : decode cX5_gravest 83 = .ok (.goto (-62), 3) := by decide +kernel
theorem dX5_gravest_86 : decode cX5_gravest 86 = .ok (.iload_n 2, 1) := by decide +kernel
theorem dX5_gravest_87 : decode cX5_gravest 87 = .ok (.ireturn, 1) := by decide +kernel
set_option maxRecDepth 20000 in
theorem ggX5_undo_X1_giveBack : GoodIn wsX5_undo wsX1_giveBack := goodIn_r _ [7, 8, 9, 10, 11, 12, 13, 14, 15, 16, 17, 18, 19, 20, 21, 22, 23, 24, 25, 26, 27, 28, 29, 30, 31, 32, 33, 34, 35, 36, 37, 38, 39, 40, 41, 42, 48, 49, 50, 51, 52, 53, 54, 55, 56, 57, 58, 59, 60, 61, 62, 63, 64, 65, 66] (by decide +kernel) (by decide +kernel)
set_option maxRecDepth 20000 in
theorem gX5_undo_X1_giveBack : GoodIn wsX5_undo (wsV RX5 178 RX1 yX1_giveBack wsX1_giveBack) := goodIn_app (goodIn_of _ (by decide +kernel)) ggX5_undo_X1_giveBack
theorem dX5_undo_0 : decode cX5_undo 0 = .ok (.aload_n 0, 1) := by decide +kernel
theorem dX5_undo_1 : decode cX5_undo 1 = .ok (.getfield 36, 3) := by decide +kernel
theorem dX5_undo_4 : decode cX5_undo 4 = .ok (.aload_n 0, 1) := by decide +kernel
theorem dX5_undo_5 : decode cX5_undo 5 = .ok (.getfield 10, 3) := by decide +kernel
theorem dX5_undo_8 : decode cX5_undo 8 = .ok (.invokevirtual 178, 3) := by decide +kernel
theorem dX5_undo_11 : decode cX5_undo 11 = .ok (.ireturn, 1) := by decide +kernel
set_option maxRecDepth 20000 in
theorem ggX5_fingerprint_X5_time : GoodIn wsX5_fingerprint wsX5_time := goodIn_r _ [9, 2, 10, 119, 120, 121, 122, 123, 124, 125, 126, 127, 128, 129, 130, 131, 132, 133, 134] (by decide +kernel) (by decide +kernel)
set_option maxRecDepth 20000 in
theorem gX5_fingerprint_X5_time : GoodIn wsX5_fingerprint (wsV RX5 184 RX5 yX5_time wsX5_time) := goodIn_app (goodIn_of _ (by decide +kernel)) ggX5_fingerprint_X5_time
set_option maxRecDepth 20000 in
theorem ggX5_fingerprint_X5_mixed : GoodIn wsX5_fingerprint wsX5_mixed := goodIn_r _ [13, 14] (by decide +kernel) (by decide +kernel)
set_option maxRecDepth 20000 in
theorem gX5_fingerprint_X5_mixed : GoodIn wsX5_fingerprint (va_wsS RX5 188 yX5_mixed wsX5_mixed) := goodIn_app (goodIn_of _ (by decide +kernel)) ggX5_fingerprint_X5_mixed
set_option maxRecDepth 20000 in
theorem ggX5_fingerprint_X5_setting : GoodIn wsX5_fingerprint wsX5_setting := goodIn_r _ [18, 2, 19, 20, 21, 22, 8, 23, 119, 120, 121, 122, 123, 124, 125, 126, 127, 128, 129, 130, 131, 132, 133, 134] (by decide +kernel) (by decide +kernel)
set_option maxRecDepth 20000 in
theorem gX5_fingerprint_X5_setting : GoodIn wsX5_fingerprint (wsV RX5 192 RX5 yX5_setting wsX5_setting) := goodIn_app (goodIn_of _ (by decide +kernel)) ggX5_fingerprint_X5_setting
set_option maxRecDepth 20000 in
theorem ggX5_fingerprint_X5_axis : GoodIn wsX5_fingerprint wsX5_axis := goodIn_r _ [27, 28, 2, 29, 30, 8, 31, 21, 22, 23, 32, 33, 34, 35, 36, 37, 38, 39, 40, 41, 42, 43, 44, 45, 46, 47, 48, 49, 50, 51, 52, 53, 54, 55, 56, 57, 58, 59, 60, 119, 120, 121, 122, 123, 124, 125, 126, 127, 128, 129, 130, 131, 132, 133, 134, 135, 136, 137, 138, 139, 140] (by decide +kernel) (by decide +kernel)
set_option maxRecDepth 20000 in
theorem gX5_fingerprint_X5_axis : GoodIn wsX5_fingerprint (wsV RX5 195 RX5 yX5_axis wsX5_axis) := goodIn_app (goodIn_of _ (by decide +kernel)) ggX5_fingerprint_X5_axis
set_option maxRecDepth 20000 in
theorem ggX5_fingerprint_X5_wheels : GoodIn wsX5_fingerprint wsX5_wheels := goodIn_r _ [64, 2, 3, 119, 120, 121, 122, 123, 124, 125, 126, 127, 128, 129, 130, 131, 132, 133, 134] (by decide +kernel) (by decide +kernel)
set_option maxRecDepth 20000 in
theorem gX5_fingerprint_X5_wheels : GoodIn wsX5_fingerprint (wsV RX5 198 RX5 yX5_wheels wsX5_wheels) := goodIn_app (goodIn_of _ (by decide +kernel)) ggX5_fingerprint_X5_wheels
set_option maxRecDepth 20000 in
theorem ggX5_fingerprint_X5_wheel : GoodIn wsX5_fingerprint wsX5_wheel := goodIn_r _ [68, 20, 2, 69, 70, 71, 72, 8, 73, 3, 21, 22, 23, 74, 75, 76, 77, 78, 79, 80, 81, 82, 83, 84, 119, 120, 121, 122, 123, 124, 125, 126, 127, 128, 129, 130, 131, 132, 133, 134, 135, 136, 137, 138, 139, 140] (by decide +kernel) (by decide +kernel)
set_option maxRecDepth 20000 in
theorem gX5_fingerprint_X5_wheel : GoodIn wsX5_fingerprint (wsV RX5 201 RX5 yX5_wheel wsX5_wheel) := goodIn_app (goodIn_of _ (by decide +kernel)) ggX5_fingerprint_X5_wheel
set_option maxRecDepth 20000 in
theorem ggX5_fingerprint_X5_span : GoodIn wsX5_fingerprint wsX5_span := goodIn_r _ [88, 89, 2, 90, 91, 92, 93, 94, 95, 96, 97, 98, 99, 100, 101, 102, 103, 104, 105, 106, 107, 108, 109, 110, 111, 112, 8, 113, 119, 120, 121, 122, 123, 141, 142, 143, 144, 124, 125, 126, 127, 128, 129, 130, 131, 132, 133, 134, 135, 136, 137, 138, 139, 140] (by decide +kernel) (by decide +kernel)
set_option maxRecDepth 20000 in
theorem gX5_fingerprint_X5_span : GoodIn wsX5_fingerprint (wsV RX5 205 RX5 yX5_span wsX5_span) := goodIn_app (goodIn_of _ (by decide +kernel)) ggX5_fingerprint_X5_span
set_option maxRecDepth 20000 in
theorem ggX5_fingerprint_X5_why : GoodIn wsX5_fingerprint wsX5_why := goodIn_r _ [117, 20, 2, 4, 118, 90, 119, 120, 121, 122, 123, 124, 125, 126, 127, 128, 129, 130, 131, 132, 133, 134] (by decide +kernel) (by decide +kernel)
set_option maxRecDepth 20000 in
theorem gX5_fingerprint_X5_why : GoodIn wsX5_fingerprint (wsV RX5 209 RX5 yX5_why wsX5_why) := goodIn_app (goodIn_of _ (by decide +kernel)) ggX5_fingerprint_X5_why
theorem dX5_fingerprint_0 : decode cX5_fingerprint 0 = .ok (.ldc2_w 182, 3) := by decide +kernel
theorem dX5_fingerprint_3 : decode cX5_fingerprint 3 = .ok (.aload_n 0, 1) := by decide +kernel
theorem dX5_fingerprint_4 : decode cX5_fingerprint 4 = .ok (.invokevirtual 184, 3) := by decide +kernel
theorem dX5_fingerprint_7 : decode cX5_fingerprint 7 = .ok (.i2l, 1) := by decide +kernel
theorem dX5_fingerprint_8 : decode cX5_fingerprint 8 = .ok (.invokestatic 188, 3) := by decide +kernel
theorem dX5_fingerprint_11 : decode cX5_fingerprint 11 = .ok (.lstore_n 1, 1) := by decide +kernel
theorem dX5_fingerprint_12 : decode cX5_fingerprint 12 = .ok (.iconst 0, 1) := by decide +kernel
theorem dX5_fingerprint_13 : decode cX5_fingerprint 13 = .ok (.istore_n 3, 1) := by decide +kernel
theorem dX5_fingerprint_14 : decode cX5_fingerprint 14 = .ok (.iload_n 3, 1) := by decide +kernel
theorem dX5_fingerprint_15 : decode cX5_fingerprint 15 = .ok (.iconst 5, 1) := by decide +kernel
theorem dX5_fingerprint_16 : decode cX5_fingerprint 16 = .ok (.if_icmp .ge 20, 3) := by decide +kernel
theorem dX5_fingerprint_19 : decode cX5_fingerprint 19 = .ok (.lload_n 1, 1) := by decide +kernel
theorem dX5_fingerprint_20 : decode cX5_fingerprint 20 = .ok (.aload_n 0, 1) := by decide +kernel
theorem dX5_fingerprint_21 : decode cX5_fingerprint 21 = .ok (.iload_n 3, 1) := by decide +kernel
theorem dX5_fingerprint_22 : decode cX5_fingerprint 22 = .ok (.invokevirtual 192, 3) := by decide +kernel
theorem dX5_fingerprint_25 : decode cX5_fingerprint 25 = .ok (.i2l, 1) := by decide +kernel
theorem dX5_fingerprint_26 : decode cX5_fingerprint 26 = .ok (.invokestatic 188, 3) := by decide +kernel
theorem dX5_fingerprint_29 : decode cX5_fingerprint 29 = .ok (.lstore_n 1, 1) := by decide +kernel
theorem dX5_fingerprint_30 : decode cX5_fingerprint 30 = .ok (.iinc 3 1, 3) := by decide +kernel
theorem dX5_fingerprint_33 : decode cX5_fingerprint 33 = .ok (.goto (-19), 3) := by decide +kernel
theorem dX5_fingerprint_36 : decode cX5_fingerprint 36 = .ok (.iconst 0, 1) := by decide +kernel
theorem dX5_fingerprint_37 : decode cX5_fingerprint 37 = .ok (.istore_n 3, 1) := by decide +kernel
theorem dX5_fingerprint_38 : decode cX5_fingerprint 38 = .ok (.iload_n 3, 1) := by decide +kernel
theorem dX5_fingerprint_39 : decode cX5_fingerprint 39 = .ok (.iconst 3, 1) := by decide +kernel
theorem dX5_fingerprint_40 : decode cX5_fingerprint 40 = .ok (.if_icmp .ge 37, 3) := by decide +kernel
theorem dX5_fingerprint_43 : decode cX5_fingerprint 43 = .ok (.iconst 0, 1) := by decide +kernel
theorem dX5_fingerprint_44 : decode cX5_fingerprint 44 = .ok (.istore 4, 2) := by decide +kernel
theorem dX5_fingerprint_46 : decode cX5_fingerprint 46 = .ok (.iload 4, 2) := by decide +kernel
theorem dX5_fingerprint_48 : decode cX5_fingerprint 48 = .ok (.bipush 10, 2) := by decide +kernel
theorem dX5_fingerprint_50 : decode cX5_fingerprint 50 = .ok (.if_icmp .ge 21, 3) := by decide +kernel
theorem dX5_fingerprint_53 : decode cX5_fingerprint 53 = .ok (.lload_n 1, 1) := by decide +kernel
theorem dX5_fingerprint_54 : decode cX5_fingerprint 54 = .ok (.aload_n 0, 1) := by decide +kernel
theorem dX5_fingerprint_55 : decode cX5_fingerprint 55 = .ok (.iload_n 3, 1) := by decide +kernel
theorem dX5_fingerprint_56 : decode cX5_fingerprint 56 = .ok (.iload 4, 2) := by decide +kernel
theorem dX5_fingerprint_58 : decode cX5_fingerprint 58 = .ok (.invokevirtual 195, 3) := by decide +kernel
theorem dX5_fingerprint_61 : decode cX5_fingerprint 61 = .ok (.invokestatic 188, 3) := by decide +kernel
theorem dX5_fingerprint_64 : decode cX5_fingerprint 64 = .ok (.lstore_n 1, 1) := by decide +kernel
theorem dX5_fingerprint_65 : decode cX5_fingerprint 65 = .ok (.iinc 4 1, 3) := by decide +kernel
theorem dX5_fingerprint_68 : decode cX5_fingerprint 68 = .ok (.goto (-22), 3) := by decide +kernel
theorem dX5_fingerprint_71 : decode cX5_fingerprint 71 = .ok (.iinc 3 1, 3) := by decide +kernel
theorem dX5_fingerprint_74 : decode cX5_fingerprint 74 = .ok (.goto (-36), 3) := by decide +kernel
theorem dX5_fingerprint_77 : decode cX5_fingerprint 77 = .ok (.lload_n 1, 1) := by decide +kernel
theorem dX5_fingerprint_78 : decode cX5_fingerprint 78 = .ok (.aload_n 0, 1) := by decide +kernel
theorem dX5_fingerprint_79 : decode cX5_fingerprint 79 = .ok (.invokevirtual 198, 3) := by decide +kernel
theorem dX5_fingerprint_82 : decode cX5_fingerprint 82 = .ok (.i2l, 1) := by decide +kernel
theorem dX5_fingerprint_83 : decode cX5_fingerprint 83 = .ok (.invokestatic 188, 3) := by decide +kernel
theorem dX5_fingerprint_86 : decode cX5_fingerprint 86 = .ok (.lstore_n 1, 1) := by decide +kernel
theorem dX5_fingerprint_87 : decode cX5_fingerprint 87 = .ok (.iconst 0, 1) := by decide +kernel
theorem dX5_fingerprint_88 : decode cX5_fingerprint 88 = .ok (.istore_n 3, 1) := by decide +kernel
theorem dX5_fingerprint_89 : decode cX5_fingerprint 89 = .ok (.iload_n 3, 1) := by decide +kernel
theorem dX5_fingerprint_90 : decode cX5_fingerprint 90 = .ok (.aload_n 0, 1) := by decide +kernel
theorem dX5_fingerprint_91 : decode cX5_fingerprint 91 = .ok (.getfield 10, 3) := by decide +kernel
theorem dX5_fingerprint_94 : decode cX5_fingerprint 94 = .ok (.getfield 50, 3) := by decide +kernel
theorem dX5_fingerprint_97 : decode cX5_fingerprint 97 = .ok (.if_icmp .ge 38, 3) := by decide +kernel
theorem dX5_fingerprint_100 : decode cX5_fingerprint 100 = .ok (.iconst 0, 1) := by decide +kernel
theorem dX5_fingerprint_101 : decode cX5_fingerprint 101 = .ok (.istore 4, 2) := by decide +kernel
theorem dX5_fingerprint_103 : decode cX5_fingerprint 103 = .ok (.iload 4, 2) := by decide +kernel
theorem dX5_fingerprint_105 : decode cX5_fingerprint 105 = .ok (.bipush 8, 2) := by decide +kernel
theorem dX5_fingerprint_107 : decode cX5_fingerprint 107 = .ok (.if_icmp .ge 22, 3) := by decide +kernel
theorem dX5_fingerprint_110 : decode cX5_fingerprint 110 = .ok (.lload_n 1, 1) := by decide +kernel
theorem dX5_fingerprint_111 : decode cX5_fingerprint 111 = .ok (.aload_n 0, 1) := by decide +kernel
theorem dX5_fingerprint_112 : decode cX5_fingerprint 112 = .ok (.iload_n 3, 1) := by decide +kernel
theorem dX5_fingerprint_113 : decode cX5_fingerprint 113 = .ok (.iload 4, 2) := by decide +kernel
theorem dX5_fingerprint_115 : decode cX5_fingerprint 115 = .ok (.invokevirtual 201, 3) := by decide +kernel
theorem dX5_fingerprint_118 : decode cX5_fingerprint 118 = .ok (.i2l, 1) := by decide +kernel
theorem dX5_fingerprint_119 : decode cX5_fingerprint 119 = .ok (.invokestatic 188, 3) := by decide +kernel
theorem dX5_fingerprint_122 : decode cX5_fingerprint 122 = .ok (.lstore_n 1, 1) := by decide +kernel
theorem dX5_fingerprint_123 : decode cX5_fingerprint 123 = .ok (.iinc 4 1, 3) := by decide +kernel
theorem dX5_fingerprint_126 : decode cX5_fingerprint 126 = .ok (.goto (-23), 3) := by decide +kernel
theorem dX5_fingerprint_129 : decode cX5_fingerprint 129 = .ok (.iinc 3 1, 3) := by decide +kernel
theorem dX5_fingerprint_132 : decode cX5_fingerprint 132 = .ok (.goto (-43), 3) := by decide +kernel
theorem dX5_fingerprint_135 : decode cX5_fingerprint 135 = .ok (.lload_n 1, 1) := by decide +kernel
theorem dX5_fingerprint_136 : decode cX5_fingerprint 136 = .ok (.aload_n 0, 1) := by decide +kernel
theorem dX5_fingerprint_137 : decode cX5_fingerprint 137 = .ok (.invokevirtual 205, 3) := by decide +kernel
theorem dX5_fingerprint_140 : decode cX5_fingerprint 140 = .ok (.invokestatic 188, 3) := by decide +kernel
theorem dX5_fingerprint_143 : decode cX5_fingerprint 143 = .ok (.lstore_n 1, 1) := by decide +kernel
theorem dX5_fingerprint_144 : decode cX5_fingerprint 144 = .ok (.iconst 0, 1) := by decide +kernel
theorem dX5_fingerprint_145 : decode cX5_fingerprint 145 = .ok (.istore_n 3, 1) := by decide +kernel
theorem dX5_fingerprint_146 : decode cX5_fingerprint 146 = .ok (.iload_n 3, 1) := by decide +kernel
theorem dX5_fingerprint_147 : decode cX5_fingerprint 147 = .ok (.aload_n 0, 1) := by decide +kernel
theorem dX5_fingerprint_148 : decode cX5_fingerprint 148 = .ok (.getfield 10, 3) := by decide +kernel
theorem dX5_fingerprint_151 : decode cX5_fingerprint 151 = .ok (.getfield 159, 3) := by decide +kernel
theorem dX5_fingerprint_154 : decode cX5_fingerprint 154 = .ok (.if_icmp .ge 20, 3) := by decide +kernel
theorem dX5_fingerprint_157 : decode cX5_fingerprint 157 = .ok (.lload_n 1, 1) := by decide +kernel
theorem dX5_fingerprint_158 : decode cX5_fingerprint 158 = .ok (.aload_n 0, 1) := by decide +kernel
theorem dX5_fingerprint_159 : decode cX5_fingerprint 159 = .ok (.iload_n 3, 1) := by decide +kernel
theorem dX5_fingerprint_160 : decode cX5_fingerprint 160 = .ok (.invokevirtual 209, 3) := by decide +kernel
theorem dX5_fingerprint_163 : decode cX5_fingerprint 163 = .ok (.i2l, 1) := by decide +kernel
theorem dX5_fingerprint_164 : decode cX5_fingerprint 164 = .ok (.invokestatic 188, 3) := by decide +kernel
theorem dX5_fingerprint_167 : decode cX5_fingerprint 167 = .ok (.lstore_n 1, 1) := by decide +kernel
theorem dX5_fingerprint_168 : decode cX5_fingerprint 168 = .ok (.iinc 3 1, 3) := by decide +kernel
theorem dX5_fingerprint_171 : decode cX5_fingerprint 171 = .ok (.goto (-25), 3) := by decide +kernel
theorem dX5_fingerprint_174 : decode cX5_fingerprint 174 = .ok (.lload_n 1, 1) := by decide +kernel
theorem dX5_fingerprint_175 : decode cX5_fingerprint 175 = .ok (.lreturn, 1) := by decide +kernel
theorem dX5_mixed_0 : decode cX5_mixed 0 = .ok (.ldc2_w 212, 3) := by decide +kernel
theorem dX5_mixed_3 : decode cX5_mixed 3 = .ok (.lload_n 0, 1) := by decide +kernel
theorem dX5_mixed_4 : decode cX5_mixed 4 = .ok (.lmul, 1) := by decide +kernel
theorem dX5_mixed_5 : decode cX5_mixed 5 = .ok (.lload_n 2, 1) := by decide +kernel
theorem dX5_mixed_6 : decode cX5_mixed 6 = .ok (.ladd, 1) := by decide +kernel
theorem dX5_mixed_7 : decode cX5_mixed 7 = .ok (.lreturn, 1) := by decide +kernel
theorem dX5_isWithin_0 : decode cX5_isWithin 0 = .ok (.iload_n 0, 1) := by decide +kernel
theorem dX5_isWithin_1 : decode cX5_isWithin 1 = .ok (.iload_n 1, 1) := by decide +kernel
theorem dX5_isWithin_2 : decode cX5_isWithin 2 = .ok (.if_icmp .lt 12, 3) := by decide +kernel
theorem dX5_isWithin_5 : decode cX5_isWithin 5 = .ok (.iload_n 0, 1) := by decide +kernel
theorem dX5_isWithin_6 : decode cX5_isWithin 6 = .ok (.iload_n 2, 1) := by decide +kernel
theorem dX5_isWithin_7 : decode cX5_isWithin 7 = .ok (.if_icmp .gt 7, 3) := by decide +kernel
theorem dX5_isWithin_10 : decode cX5_isWithin 10 = .ok (.iconst 1, 1) := by decide +kernel
theorem dX5_isWithin_11 : decode cX5_isWithin 11 = .ok (.goto 4, 3) := by decide +kernel
theorem dX5_isWithin_14 : decode cX5_isWithin 14 = .ok (.iconst 0, 1) := by decide +kernel
theorem dX5_isWithin_15 : decode cX5_isWithin 15 = .ok (.ireturn, 1) := by decide +kernel
set_option maxRecDepth 20000 in
theorem ggX5_isAxis_X5_isWithin : GoodIn wsX5_isAxis wsX5_isWithin := goodIn_r _ [4] (by decide +kernel) (by decide +kernel)
set_option maxRecDepth 20000 in
theorem gX5_isAxis_X5_isWithin : GoodIn wsX5_isAxis (va_wsS RX5 45 yX5_isWithin wsX5_isWithin) := goodIn_app (goodIn_of _ (by decide +kernel)) ggX5_isAxis_X5_isWithin
theorem dX5_isAxis_0 : decode cX5_isAxis 0 = .ok (.iload_n 0, 1) := by decide +kernel
theorem dX5_isAxis_1 : decode cX5_isAxis 1 = .ok (.iconst 0, 1) := by decide +kernel
theorem dX5_isAxis_2 : decode cX5_isAxis 2 = .ok (.iconst 2, 1) := by decide +kernel
theorem dX5_isAxis_3 : decode cX5_isAxis 3 = .ok (.invokestatic 45, 3) := by decide +kernel
theorem dX5_isAxis_6 : decode cX5_isAxis 6 = .ok (.ireturn, 1) := by decide +kernel
set_option maxRecDepth 20000 in
theorem ggX5_isTorque_X5_isWithin : GoodIn wsX5_isTorque wsX5_isWithin := goodIn_r _ [6] (by decide +kernel) (by decide +kernel)
set_option maxRecDepth 20000 in
theorem gX5_isTorque_X5_isWithin : GoodIn wsX5_isTorque (va_wsS RX5 45 yX5_isWithin wsX5_isWithin) := goodIn_app (goodIn_of _ (by decide +kernel)) ggX5_isTorque_X5_isWithin
theorem dX5_isTorque_0 : decode cX5_isTorque 0 = .ok (.iload_n 0, 1) := by decide +kernel
theorem dX5_isTorque_1 : decode cX5_isTorque 1 = .ok (.ldc 110, 2) := by decide +kernel
theorem dX5_isTorque_3 : decode cX5_isTorque 3 = .ok (.ldc 48, 2) := by decide +kernel
theorem dX5_isTorque_5 : decode cX5_isTorque 5 = .ok (.invokestatic 45, 3) := by decide +kernel
theorem dX5_isTorque_8 : decode cX5_isTorque 8 = .ok (.ireturn, 1) := by decide +kernel
set_option maxRecDepth 20000 in
theorem ggX5_isDirection_X5_isWithin : GoodIn wsX5_isDirection wsX5_isWithin := goodIn_r _ [4] (by decide +kernel) (by decide +kernel)
set_option maxRecDepth 20000 in
theorem gX5_isDirection_X5_isWithin : GoodIn wsX5_isDirection (va_wsS RX5 45 yX5_isWithin wsX5_isWithin) := goodIn_app (goodIn_of _ (by decide +kernel)) ggX5_isDirection_X5_isWithin
theorem dX5_isDirection_0 : decode cX5_isDirection 0 = .ok (.iload_n 0, 1) := by decide +kernel
theorem dX5_isDirection_1 : decode cX5_isDirection 1 = .ok (.bipush (-9), 2) := by decide +kernel
theorem dX5_isDirection_3 : decode cX5_isDirection 3 = .ok (.bipush 9, 2) := by decide +kernel
theorem dX5_isDirection_5 : decode cX5_isDirection 5 = .ok (.invokestatic 45, 3) := by decide +kernel
theorem dX5_isDirection_8 : decode cX5_isDirection 8 = .ok (.ifCond .eq 41, 3) := by decide +kernel
theorem dX5_isDirection_11 : decode cX5_isDirection 11 = .ok (.iload_n 1, 1) := by decide +kernel
theorem dX5_isDirection_12 : decode cX5_isDirection 12 = .ok (.bipush (-9), 2) := by decide +kernel
theorem dX5_isDirection_14 : decode cX5_isDirection 14 = .ok (.bipush 9, 2) := by decide +kernel
theorem dX5_isDirection_16 : decode cX5_isDirection 16 = .ok (.invokestatic 45, 3) := by decide +kernel
theorem dX5_isDirection_19 : decode cX5_isDirection 19 = .ok (.ifCond .eq 30, 3) := by decide +kernel
theorem dX5_isDirection_22 : decode cX5_isDirection 22 = .ok (.iload_n 2, 1) := by decide +kernel
theorem dX5_isDirection_23 : decode cX5_isDirection 23 = .ok (.bipush (-9), 2) := by decide +kernel
theorem dX5_isDirection_25 : decode cX5_isDirection 25 = .ok (.bipush 9, 2) := by decide +kernel
theorem dX5_isDirection_27 : decode cX5_isDirection 27 = .ok (.invokestatic 45, 3) := by decide +kernel
theorem dX5_isDirection_30 : decode cX5_isDirection 30 = .ok (.ifCond .eq 19, 3) := by decide +kernel
theorem dX5_isDirection_33 : decode cX5_isDirection 33 = .ok (.iload_n 0, 1) := by decide +kernel
theorem dX5_isDirection_34 : decode cX5_isDirection 34 = .ok (.ifCond .ne 11, 3) := by decide +kernel
theorem dX5_isDirection_37 : decode cX5_isDirection 37 = .ok (.iload_n 1, 1) := by decide +kernel
theorem dX5_isDirection_38 : decode cX5_isDirection 38 = .ok (.ifCond .ne 7, 3) := by decide +kernel
theorem dX5_isDirection_41 : decode cX5_isDirection 41 = .ok (.iload_n 2, 1) := by decide +kernel
theorem dX5_isDirection_42 : decode cX5_isDirection 42 = .ok (.ifCond .eq 7, 3) := by decide +kernel
theorem dX5_isDirection_45 : decode cX5_isDirection 45 = .ok (.iconst 1, 1) := by decide +kernel
theorem dX5_isDirection_46 : decode cX5_isDirection 46 = .ok (.goto 4, 3) := by decide +kernel
theorem dX5_isDirection_49 : decode cX5_isDirection 49 = .ok (.iconst 0, 1) := by decide +kernel
theorem dX5_isDirection_50 : decode cX5_isDirection 50 = .ok (.ireturn, 1) := by decide +kernel
set_option maxRecDepth 20000 in
theorem ggX5_isWheel_X5_isWithin : GoodIn wsX5_isWheel wsX5_isWithin := goodIn_r _ [6] (by decide +kernel) (by decide +kernel)
set_option maxRecDepth 20000 in
theorem gX5_isWheel_X5_isWithin : GoodIn wsX5_isWheel (va_wsS RX5 45 yX5_isWithin wsX5_isWithin) := goodIn_app (goodIn_of _ (by decide +kernel)) ggX5_isWheel_X5_isWithin
theorem dX5_isWheel_0 : decode cX5_isWheel 0 = .ok (.iload_n 1, 1) := by decide +kernel
theorem dX5_isWheel_1 : decode cX5_isWheel 1 = .ok (.iconst 0, 1) := by decide +kernel
theorem dX5_isWheel_2 : decode cX5_isWheel 2 = .ok (.aload_n 0, 1) := by decide +kernel
theorem dX5_isWheel_3 : decode cX5_isWheel 3 = .ok (.getfield 10, 3) := by decide +kernel
theorem dX5_isWheel_6 : decode cX5_isWheel 6 = .ok (.getfield 50, 3) := by decide +kernel
theorem dX5_isWheel_9 : decode cX5_isWheel 9 = .ok (.iconst 1, 1) := by decide +kernel
theorem dX5_isWheel_10 : decode cX5_isWheel 10 = .ok (.isub, 1) := by decide +kernel
theorem dX5_isWheel_11 : decode cX5_isWheel 11 = .ok (.invokestatic 45, 3) := by decide +kernel
theorem dX5_isWheel_14 : decode cX5_isWheel 14 = .ok (.ireturn, 1) := by decide +kernel
theorem dX5_limited_0 : decode cX5_limited 0 = .ok (.lload_n 0, 1) := by decide +kernel
theorem dX5_limited_1 : decode cX5_limited 1 = .ok (.lload_n 2, 1) := by decide +kernel
theorem dX5_limited_2 : decode cX5_limited 2 = .ok (.lcmp, 1) := by decide +kernel
theorem dX5_limited_3 : decode cX5_limited 3 = .ok (.ifCond .ge 5, 3) := by decide +kernel
theorem dX5_limited_6 : decode cX5_limited 6 = .ok (.lload_n 2, 1) := by decide +kernel
theorem dX5_limited_7 : decode cX5_limited 7 = .ok (.lreturn, 1) := by decide +kernel
theorem dX5_limited_8 : decode cX5_limited 8 = .ok (.lload_n 0, 1) := by decide +kernel
theorem dX5_limited_9 : decode cX5_limited 9 = .ok (.lload 4, 2) := by decide +kernel
theorem dX5_limited_11 : decode cX5_limited 11 = .ok (.lcmp, 1) := by decide +kernel
theorem dX5_limited_12 : decode cX5_limited 12 = .ok (.ifCond .le 8, 3) := by decide +kernel
theorem dX5_limited_15 : decode cX5_limited 15 = .ok (.lload 4, 2) := by decide +kernel
theorem dX5_limited_17 : decode cX5_limited 17 = .ok (.goto 4, 3) := by decide +kernel
theorem dX5_limited_20 : decode cX5_limited 20 = .ok (.lload_n 0, 1) := by decide +kernel
theorem dX5_limited_21 : decode cX5_limited 21 = .ok (.lreturn, 1) := by decide +kernel
set_option maxRecDepth 20000 in
theorem ggX5_quotient_J9_floorDiv_f86c9 : GoodIn wsX5_quotient wsJ9_floorDiv_f86c9 := goodIn_r _ [4] (by decide +kernel) (by decide +kernel)
set_option maxRecDepth 20000 in
theorem gX5_quotient_J9_floorDiv_f86c9 : GoodIn wsX5_quotient (va_wsS RX5 214 yJ9_floorDiv_f86c9 wsJ9_floorDiv_f86c9) := goodIn_app (goodIn_of _ (by decide +kernel)) ggX5_quotient_J9_floorDiv_f86c9
theorem dX5_quotient_0 : decode cX5_quotient 0 = .ok (.lload_n 2, 1) := by decide +kernel
theorem dX5_quotient_1 : decode cX5_quotient 1 = .ok (.lconst 0, 1) := by decide +kernel
theorem dX5_quotient_2 : decode cX5_quotient 2 = .ok (.lcmp, 1) := by decide +kernel
theorem dX5_quotient_3 : decode cX5_quotient 3 = .ok (.ifCond .le 11, 3) := by decide +kernel
theorem dX5_quotient_6 : decode cX5_quotient 6 = .ok (.lload_n 0, 1) := by decide +kernel
theorem dX5_quotient_7 : decode cX5_quotient 7 = .ok (.lload_n 2, 1) := by decide +kernel
theorem dX5_quotient_8 : decode cX5_quotient 8 = .ok (.invokestatic 214, 3) := by decide +kernel
theorem dX5_quotient_11 : decode cX5_quotient 11 = .ok (.goto 4, 3) := by decide +kernel
theorem dX5_quotient_14 : decode cX5_quotient 14 = .ok (.lconst 0, 1) := by decide +kernel
theorem dX5_quotient_15 : decode cX5_quotient 15 = .ok (.lreturn, 1) := by decide +kernel
theorem dX5_axisAfter_0 : decode cX5_axisAfter 0 = .ok (.iload_n 0, 1) := by decide +kernel
theorem dX5_axisAfter_1 : decode cX5_axisAfter 1 = .ok (.iload_n 1, 1) := by decide +kernel
theorem dX5_axisAfter_2 : decode cX5_axisAfter 2 = .ok (.iadd, 1) := by decide +kernel
theorem dX5_axisAfter_3 : decode cX5_axisAfter 3 = .ok (.iconst 3, 1) := by decide +kernel
theorem dX5_axisAfter_4 : decode cX5_axisAfter 4 = .ok (.irem, 1) := by decide +kernel
theorem dX5_axisAfter_5 : decode cX5_axisAfter 5 = .ok (.ireturn, 1) := by decide +kernel
set_option maxRecDepth 20000 in
theorem ggX5_passOne_X0_findWish : GoodIn wsX5_passOne wsX0_findWish := goodIn_r _ [8, 9, 10, 11, 12, 13, 14, 15, 16, 17, 18, 19, 20, 21, 22, 23, 24, 25, 7, 26, 27, 138, 139, 140, 141, 142, 143, 144, 145, 146, 147, 148] (by decide +kernel) (by decide +kernel)
set_option maxRecDepth 20000 in
theorem gX5_passOne_X0_findWish : GoodIn wsX5_passOne (wsV RX5 219 RX0 yX0_findWish wsX0_findWish) := goodIn_app (goodIn_of _ (by decide +kernel)) ggX5_passOne_X0_findWish
set_option maxRecDepth 20000 in
theorem ggX5_passOne_X3_share : GoodIn wsX5_passOne wsX3_share := goodIn_r _ [32, 33, 34, 35, 36, 37, 38, 39, 40, 31, 41, 42, 43, 44, 45, 7, 46, 47, 48, 49, 50, 51, 52, 53, 54, 55, 56, 57, 58, 59, 60, 61, 62, 63, 64, 65, 66, 67, 68, 69, 70, 71, 72, 73, 74, 18, 19, 20, 75, 76, 77, 78, 79, 80, 21, 15, 22, 81, 82, 83, 84, 85, 86, 87, 88, 89, 90, 91, 92, 93, 94, 95, 96, 97, 98, 99, 100, 101, 138, 139, 140, 141, 142, 143, 144, 145, 146, 147, 148, 154, 155, 156, 157, 158, 159, 160, 161, 162, 163] (by decide +kernel) (by decide +kernel)
set_option maxRecDepth 20000 in
theorem gX5_passOne_X3_share : GoodIn wsX5_passOne (wsV RX5 222 RX3 yX3_share wsX3_share) := goodIn_app (goodIn_of _ (by decide +kernel)) ggX5_passOne_X3_share
set_option maxRecDepth 20000 in
theorem ggX5_passOne_X2_letGo : GoodIn wsX5_passOne wsX2_letGo := goodIn_r _ [106, 107, 108, 109, 110, 111, 112, 113, 114, 115, 7, 116, 49, 50, 117, 118, 119, 120, 105, 121, 122, 15, 123, 14, 16, 17, 18, 19, 20, 21, 22, 124, 125, 126, 127, 27, 128, 138, 139, 140, 141, 142, 143, 144, 145, 146, 147, 148, 164, 165, 154, 155, 156, 157, 158, 159] (by decide +kernel) (by decide +kernel)
set_option maxRecDepth 20000 in
theorem gX5_passOne_X2_letGo : GoodIn wsX5_passOne (wsV RX5 225 RX2 yX2_letGo wsX2_letGo) := goodIn_app (goodIn_of _ (by decide +kernel)) ggX5_passOne_X2_letGo
set_option maxRecDepth 20000 in
theorem ggX5_passOne_X0_disturb : GoodIn wsX5_passOne wsX0_disturb := goodIn_r _ [132, 10, 133, 125, 126, 7, 127, 27, 128, 138, 139, 140, 141, 142, 143, 144, 145, 146, 147, 148] (by decide +kernel) (by decide +kernel)
set_option maxRecDepth 20000 in
theorem gX5_passOne_X0_disturb : GoodIn wsX5_passOne (wsV RX5 228 RX0 yX0_disturb wsX0_disturb) := goodIn_app (goodIn_of _ (by decide +kernel)) ggX5_passOne_X0_disturb
set_option maxRecDepth 20000 in
theorem ggX5_passOne_X0_turn : GoodIn wsX5_passOne wsX0_turn := goodIn_r _ [137, 11, 23, 24, 25, 7, 26, 27, 10, 14, 15, 16, 17, 18, 19, 20, 138, 139, 140, 141, 142, 143, 144, 145, 146, 147, 148] (by decide +kernel) (by decide +kernel)
set_option maxRecDepth 20000 in
theorem gX5_passOne_X0_turn : GoodIn wsX5_passOne (wsV RX5 231 RX0 yX0_turn wsX0_turn) := goodIn_app (goodIn_of _ (by decide +kernel)) ggX5_passOne_X0_turn
theorem dX5_passOne_0 : decode cX5_passOne 0 = .ok (.aload_n 1, 1) := by decide +kernel
theorem dX5_passOne_1 : decode cX5_passOne 1 = .ok (.dup, 1) := by decide +kernel
theorem dX5_passOne_2 : decode cX5_passOne 2 = .ok (.getfield 121, 3) := by decide +kernel
theorem dX5_passOne_5 : decode cX5_passOne 5 = .ok (.iconst 1, 1) := by decide +kernel
theorem dX5_passOne_6 : decode cX5_passOne 6 = .ok (.iadd, 1) := by decide +kernel
theorem dX5_passOne_7 : decode cX5_passOne 7 = .ok (.putfield 121, 3) := by decide +kernel
theorem dX5_passOne_10 : decode cX5_passOne 10 = .ok (.aload_n 1, 1) := by decide +kernel
theorem dX5_passOne_11 : decode cX5_passOne 11 = .ok (.invokevirtual 219, 3) := by decide +kernel
theorem dX5_passOne_14 : decode cX5_passOne 14 = .ok (.aload_n 0, 1) := by decide +kernel
theorem dX5_passOne_15 : decode cX5_passOne 15 = .ok (.getfield 22, 3) := by decide +kernel
theorem dX5_passOne_18 : decode cX5_passOne 18 = .ok (.aload_n 1, 1) := by decide +kernel
theorem dX5_passOne_19 : decode cX5_passOne 19 = .ok (.invokevirtual 222, 3) := by decide +kernel
theorem dX5_passOne_22 : decode cX5_passOne 22 = .ok (.aload_n 0, 1) := by decide +kernel
theorem dX5_passOne_23 : decode cX5_passOne 23 = .ok (.getfield 29, 3) := by decide +kernel
theorem dX5_passOne_26 : decode cX5_passOne 26 = .ok (.aload_n 1, 1) := by decide +kernel
theorem dX5_passOne_27 : decode cX5_passOne 27 = .ok (.invokevirtual 225, 3) := by decide +kernel
theorem dX5_passOne_30 : decode cX5_passOne 30 = .ok (.aload_n 1, 1) := by decide +kernel
theorem dX5_passOne_31 : decode cX5_passOne 31 = .ok (.invokevirtual 228, 3) := by decide +kernel
theorem dX5_passOne_34 : decode cX5_passOne 34 = .ok (.aload_n 1, 1) := by decide +kernel
theorem dX5_passOne_35 : decode cX5_passOne 35 = .ok (.invokevirtual 231, 3) := by decide +kernel
theorem dX5_passOne_38 : decode cX5_passOne 38 = .ok (.return_, 1) := by decide +kernel
set_option maxRecDepth 20000 in
theorem ggX5_offWithout_X0_become : GoodIn wsX5_offWithout wsX0_become := goodIn_r _ [11, 12, 13, 14, 15, 16, 17, 18, 19, 20, 21, 22, 23, 24, 25, 26, 27, 28, 29, 30, 31, 32, 33, 34, 35, 36, 37, 38, 193, 194, 195, 196, 197, 198, 199, 200, 201, 202, 203, 204, 205, 206, 207, 208, 209] (by decide +kernel) (by decide +kernel)
set_option maxRecDepth 20000 in
theorem gX5_offWithout_X0_become : GoodIn wsX5_offWithout (wsV RX5 169 RX0 yX0_become wsX0_become) := goodIn_app (goodIn_of _ (by decide +kernel)) ggX5_offWithout_X0_become
set_option maxRecDepth 20000 in
theorem ggX5_offWithout_X3_measure : GoodIn wsX5_offWithout wsX3_measure := goodIn_r _ [43, 44, 45, 46, 47, 48, 49, 50, 51, 52, 53, 42, 54, 55, 56, 57, 58, 59, 60, 61, 210, 211, 212, 213, 193, 194, 195, 196, 197, 198, 199, 200, 201, 202, 203, 204, 205, 206, 207, 208, 209] (by decide +kernel) (by decide +kernel)
set_option maxRecDepth 20000 in
theorem gX5_offWithout_X3_measure : GoodIn wsX5_offWithout (wsV RX5 127 RX3 yX3_measure wsX3_measure) := goodIn_app (goodIn_of _ (by decide +kernel)) ggX5_offWithout_X3_measure
set_option maxRecDepth 20000 in
theorem ggX5_offWithout_X5_passOne : GoodIn wsX5_offWithout wsX5_passOne := goodIn_r _ [65, 66, 5, 67, 68, 69, 70, 10, 71, 13, 18, 19, 72, 22, 73, 60, 74, 75, 76, 77, 78, 79, 80, 81, 82, 83, 84, 20, 85, 86, 87, 42, 88, 45, 46, 89, 90, 47, 91, 92, 93, 94, 49, 95, 96, 97, 98, 25, 26, 23, 24, 99, 100, 101, 102, 103, 104, 105, 106, 107, 108, 50, 109, 110, 111, 112, 113, 114, 48, 115, 116, 117, 118, 119, 120, 121, 122, 123, 30, 124, 36, 125, 126, 127, 128, 35, 34, 129, 130, 131, 132, 133, 134, 135, 136, 137, 138, 139, 140, 141, 142, 143, 144, 145, 146, 147, 148, 149, 150, 151, 152, 153, 154, 155, 156, 157, 158, 159, 160, 161, 162, 163, 59, 61, 164, 165, 166, 167, 21, 168, 169, 170, 171, 172, 173, 174, 175, 176, 193, 194, 195, 196, 197, 198, 199, 200, 201, 202, 203, 188, 189, 190, 191, 192, 204, 205, 206, 207, 208, 209, 210, 211, 212, 213, 214, 215] (by decide +kernel) (by decide +kernel)
set_option maxRecDepth 20000 in
theorem gX5_offWithout_X5_passOne : GoodIn wsX5_offWithout (wsV RX5 131 RX5 yX5_passOne wsX5_passOne) := goodIn_app (goodIn_of _ (by decide +kernel)) ggX5_offWithout_X5_passOne
set_option maxRecDepth 20000 in
theorem ggX5_offWithout_X0_offTarget : GoodIn wsX5_offWithout wsX0_offTarget := goodIn_r _ [180, 181, 182, 183, 10, 184, 18, 19, 185, 186, 131, 187, 193, 194, 195, 196, 197, 198, 199, 200, 201, 202, 203] (by decide +kernel) (by decide +kernel)
set_option maxRecDepth 20000 in
theorem gX5_offWithout_X0_offTarget : GoodIn wsX5_offWithout (wsV RX5 234 RX0 yX0_offTarget wsX0_offTarget) := goodIn_app (goodIn_of _ (by decide +kernel)) ggX5_offWithout_X0_offTarget
theorem dX5_offWithout_0 : decode cX5_offWithout 0 = .ok (.aload_n 0, 1) := by decide +kernel
theorem dX5_offWithout_1 : decode cX5_offWithout 1 = .ok (.getfield 16, 3) := by decide +kernel
theorem dX5_offWithout_4 : decode cX5_offWithout 4 = .ok (.aload_n 0, 1) := by decide +kernel
theorem dX5_offWithout_5 : decode cX5_offWithout 5 = .ok (.getfield 10, 3) := by decide +kernel
theorem dX5_offWithout_8 : decode cX5_offWithout 8 = .ok (.invokevirtual 169, 3) := by decide +kernel
theorem dX5_offWithout_11 : decode cX5_offWithout 11 = .ok (.aload_n 0, 1) := by decide +kernel
theorem dX5_offWithout_12 : decode cX5_offWithout 12 = .ok (.getfield 16, 3) := by decide +kernel
theorem dX5_offWithout_15 : decode cX5_offWithout 15 = .ok (.getfield 59, 3) := by decide +kernel
theorem dX5_offWithout_18 : decode cX5_offWithout 18 = .ok (.iload_n 1, 1) := by decide +kernel
theorem dX5_offWithout_19 : decode cX5_offWithout 19 = .ok (.aaload, 1) := by decide +kernel
theorem dX5_offWithout_20 : decode cX5_offWithout 20 = .ok (.iconst 1, 1) := by decide +kernel
theorem dX5_offWithout_21 : decode cX5_offWithout 21 = .ok (.putfield 73, 3) := by decide +kernel
theorem dX5_offWithout_24 : decode cX5_offWithout 24 = .ok (.aload_n 0, 1) := by decide +kernel
theorem dX5_offWithout_25 : decode cX5_offWithout 25 = .ok (.getfield 22, 3) := by decide +kernel
theorem dX5_offWithout_28 : decode cX5_offWithout 28 = .ok (.aload_n 0, 1) := by decide +kernel
theorem dX5_offWithout_29 : decode cX5_offWithout 29 = .ok (.getfield 16, 3) := by decide +kernel
theorem dX5_offWithout_32 : decode cX5_offWithout 32 = .ok (.ldc 126, 2) := by decide +kernel
theorem dX5_offWithout_34 : decode cX5_offWithout 34 = .ok (.invokevirtual 127, 3) := by decide +kernel
theorem dX5_offWithout_37 : decode cX5_offWithout 37 = .ok (.iconst 0, 1) := by decide +kernel
theorem dX5_offWithout_38 : decode cX5_offWithout 38 = .ok (.istore_n 3, 1) := by decide +kernel
theorem dX5_offWithout_39 : decode cX5_offWithout 39 = .ok (.iload_n 3, 1) := by decide +kernel
theorem dX5_offWithout_40 : decode cX5_offWithout 40 = .ok (.iload_n 2, 1) := by decide +kernel
theorem dX5_offWithout_41 : decode cX5_offWithout 41 = .ok (.if_icmp .ge 17, 3) := by decide +kernel
theorem dX5_offWithout_44 : decode cX5_offWithout 44 = .ok (.aload_n 0, 1) := by decide +kernel
theorem dX5_offWithout_45 : decode cX5_offWithout 45 = .ok (.aload_n 0, 1) := by decide +kernel
theorem dX5_offWithout_46 : decode cX5_offWithout 46 = .ok (.getfield 16, 3) := by decide +kernel
theorem dX5_offWithout_49 : decode cX5_offWithout 49 = .ok (.invokevirtual 131, 3) := by decide +kernel
theorem dX5_offWithout_52 : decode cX5_offWithout 52 = .ok (.iinc 3 1, 3) := by decide +kernel
theorem dX5_offWithout_55 : decode cX5_offWithout 55 = .ok (.goto (-16), 3) := by decide +kernel
theorem dX5_offWithout_58 : decode cX5_offWithout 58 = .ok (.aload_n 0, 1) := by decide +kernel
theorem dX5_offWithout_59 : decode cX5_offWithout 59 = .ok (.getfield 16, 3) := by decide +kernel
theorem dX5_offWithout_62 : decode cX5_offWithout 62 = .ok (.invokevirtual 234, 3) := by decide +kernel
theorem dX5_offWithout_65 : decode cX5_offWithout 65 = .ok (.lreturn, 1) := by decide +kernel
set_option maxRecDepth 20000 in
theorem ggX6_init_X6_axisAt : GoodIn wsX6_init wsX6_axisAt := goodIn_r _ [23] (by decide +kernel) (by decide +kernel)
set_option maxRecDepth 20000 in
theorem gX6_init_X6_axisAt : GoodIn wsX6_init (va_wsS RX6 45 yX6_axisAt wsX6_axisAt) := goodIn_app (goodIn_of _ (by decide +kernel)) ggX6_init_X6_axisAt
set_option maxRecDepth 20000 in
theorem ggX6_init_X6_reasons : GoodIn wsX6_init wsX6_reasons := goodIn_r _ [27, 5, 28, 29, 30, 31, 32, 33, 34, 35, 36, 37, 38] (by decide +kernel) (by decide +kernel)
set_option maxRecDepth 20000 in
theorem gX6_init_X6_reasons : GoodIn wsX6_init (wsV RX6 53 RX6 yX6_reasons wsX6_reasons) := goodIn_app (goodIn_of _ (by decide +kernel)) ggX6_init_X6_reasons
theorem dX6_init_0 : decode cX6_init 0 = .ok (.aload_n 0, 1) := by decide +kernel
theorem dX6_init_1 : decode cX6_init 1 = .ok (.invokespecial 1, 3) := by decide +kernel
theorem dX6_init_4 : decode cX6_init 4 = .ok (.aload_n 0, 1) := by decide +kernel
theorem dX6_init_5 : decode cX6_init 5 = .ok (.bipush 100, 2) := by decide +kernel
theorem dX6_init_7 : decode cX6_init 7 = .ok (.newarray .long, 2) := by decide +kernel
theorem dX6_init_9 : decode cX6_init 9 = .ok (.putfield 7, 3) := by decide +kernel
theorem dX6_init_12 : decode cX6_init 12 = .ok (.aload_n 0, 1) := by decide +kernel
theorem dX6_init_13 : decode cX6_init 13 = .ok (.bipush 100, 2) := by decide +kernel
theorem dX6_init_15 : decode cX6_init 15 = .ok (.newarray .long, 2) := by decide +kernel
theorem dX6_init_17 : decode cX6_init 17 = .ok (.putfield 13, 3) := by decide +kernel
theorem dX6_init_20 : decode cX6_init 20 = .ok (.aload_n 0, 1) := by decide +kernel
theorem dX6_init_21 : decode cX6_init 21 = .ok (.sipush 400, 3) := by decide +kernel
theorem dX6_init_24 : decode cX6_init 24 = .ok (.newarray .long, 2) := by decide +kernel
theorem dX6_init_26 : decode cX6_init 26 = .ok (.putfield 16, 3) := by decide +kernel
theorem dX6_init_29 : decode cX6_init 29 = .ok (.aload_n 0, 1) := by decide +kernel
theorem dX6_init_30 : decode cX6_init 30 = .ok (.bipush 9, 2) := by decide +kernel
theorem dX6_init_32 : decode cX6_init 32 = .ok (.newarray .long, 2) := by decide +kernel
theorem dX6_init_34 : decode cX6_init 34 = .ok (.putfield 19, 3) := by decide +kernel
theorem dX6_init_37 : decode cX6_init 37 = .ok (.aload_n 0, 1) := by decide +kernel
theorem dX6_init_38 : decode cX6_init 38 = .ok (.bipush 9, 2) := by decide +kernel
theorem dX6_init_40 : decode cX6_init 40 = .ok (.newarray .long, 2) := by decide +kernel
theorem dX6_init_42 : decode cX6_init 42 = .ok (.putfield 22, 3) := by decide +kernel
theorem dX6_init_45 : decode cX6_init 45 = .ok (.aload_n 0, 1) := by decide +kernel
theorem dX6_init_46 : decode cX6_init 46 = .ok (.iconst 3, 1) := by decide +kernel
theorem dX6_init_47 : decode cX6_init 47 = .ok (.newarray .long, 2) := by decide +kernel
theorem dX6_init_49 : decode cX6_init 49 = .ok (.putfield 25, 3) := by decide +kernel
theorem dX6_init_52 : decode cX6_init 52 = .ok (.aload_n 0, 1) := by decide +kernel
theorem dX6_init_53 : decode cX6_init 53 = .ok (.iconst 3, 1) := by decide +kernel
theorem dX6_init_54 : decode cX6_init 54 = .ok (.newarray .long, 2) := by decide +kernel
theorem dX6_init_56 : decode cX6_init 56 = .ok (.putfield 28, 3) := by decide +kernel
theorem dX6_init_59 : decode cX6_init 59 = .ok (.aload_n 0, 1) := by decide +kernel
theorem dX6_init_60 : decode cX6_init 60 = .ok (.iconst 3, 1) := by decide +kernel
theorem dX6_init_61 : decode cX6_init 61 = .ok (.newarray .long, 2) := by decide +kernel
theorem dX6_init_63 : decode cX6_init 63 = .ok (.putfield 31, 3) := by decide +kernel
theorem dX6_init_66 : decode cX6_init 66 = .ok (.aload_n 0, 1) := by decide +kernel
theorem dX6_init_67 : decode cX6_init 67 = .ok (.iconst 3, 1) := by decide +kernel
theorem dX6_init_68 : decode cX6_init 68 = .ok (.newarray .long, 2) := by decide +kernel
theorem dX6_init_70 : decode cX6_init 70 = .ok (.putfield 34, 3) := by decide +kernel
theorem dX6_init_73 : decode cX6_init 73 = .ok (.aload_n 0, 1) := by decide +kernel
theorem dX6_init_74 : decode cX6_init 74 = .ok (.getfield 7, 3) := by decide +kernel
theorem dX6_init_77 : decode cX6_init 77 = .ok (.iconst 0, 1) := by decide +kernel
theorem dX6_init_78 : decode cX6_init 78 = .ok (.ldc2_w 37, 3) := by decide +kernel
theorem dX6_init_81 : decode cX6_init 81 = .ok (.lastore, 1) := by decide +kernel
theorem dX6_init_82 : decode cX6_init 82 = .ok (.aload_n 0, 1) := by decide +kernel
theorem dX6_init_83 : decode cX6_init 83 = .ok (.getfield 7, 3) := by decide +kernel
theorem dX6_init_86 : decode cX6_init 86 = .ok (.iconst 1, 1) := by decide +kernel
theorem dX6_init_87 : decode cX6_init 87 = .ok (.ldc2_w 39, 3) := by decide +kernel
theorem dX6_init_90 : decode cX6_init 90 = .ok (.lastore, 1) := by decide +kernel
theorem dX6_init_91 : decode cX6_init 91 = .ok (.aload_n 0, 1) := by decide +kernel
theorem dX6_init_92 : decode cX6_init 92 = .ok (.getfield 7, 3) := by decide +kernel
theorem dX6_init_95 : decode cX6_init 95 = .ok (.iconst 2, 1) := by decide +kernel
theorem dX6_init_96 : decode cX6_init 96 = .ok (.ldc2_w 41, 3) := by decide +kernel
theorem dX6_init_99 : decode cX6_init 99 = .ok (.lastore, 1) := by decide +kernel
theorem dX6_init_100 : decode cX6_init 100 = .ok (.aload_n 0, 1) := by decide +kernel
theorem dX6_init_101 : decode cX6_init 101 = .ok (.getfield 7, 3) := by decide +kernel
theorem dX6_init_104 : decode cX6_init 104 = .ok (.iconst 3, 1) := by decide +kernel
theorem dX6_init_105 : decode cX6_init 105 = .ok (.ldc2_w 43, 3) := by decide +kernel
theorem dX6_init_108 : decode cX6_init 108 = .ok (.lastore, 1) := by decide +kernel
theorem dX6_init_109 : decode cX6_init 109 = .ok (.iconst 0, 1) := by decide +kernel
theorem dX6_init_110 : decode cX6_init 110 = .ok (.istore_n 1, 1) := by decide +kernel
theorem dX6_init_111 : decode cX6_init 111 = .ok (.iload_n 1, 1) := by decide +kernel
theorem dX6_init_112 : decode cX6_init 112 = .ok (.iconst 3, 1) := by decide +kernel
theorem dX6_init_113 : decode cX6_init 113 = .ok (.if_icmp .ge 22, 3) := by decide +kernel
theorem dX6_init_116 : decode cX6_init 116 = .ok (.aload_n 0, 1) := by decide +kernel
theorem dX6_init_117 : decode cX6_init 117 = .ok (.getfield 7, 3) := by decide +kernel
theorem dX6_init_120 : decode cX6_init 120 = .ok (.iload_n 1, 1) := by decide +kernel
theorem dX6_init_121 : decode cX6_init 121 = .ok (.iconst 2, 1) := by decide +kernel
theorem dX6_init_122 : decode cX6_init 122 = .ok (.invokestatic 45, 3) := by decide +kernel
theorem dX6_init_125 : decode cX6_init 125 = .ok (.ldc2_w 49, 3) := by decide +kernel
theorem dX6_init_128 : decode cX6_init 128 = .ok (.lastore, 1) := by decide +kernel
theorem dX6_init_129 : decode cX6_init 129 = .ok (.iinc 1 1, 3) := by decide +kernel
theorem dX6_init_132 : decode cX6_init 132 = .ok (.goto (-21), 3) := by decide +kernel
theorem dX6_init_135 : decode cX6_init 135 = .ok (.aload_n 0, 1) := by decide +kernel
theorem dX6_init_136 : decode cX6_init 136 = .ok (.lconst 0, 1) := by decide +kernel
theorem dX6_init_137 : decode cX6_init 137 = .ok (.ldc2_w 51, 3) := by decide +kernel
theorem dX6_init_140 : decode cX6_init 140 = .ok (.ldc2_w 51, 3) := by decide +kernel
theorem dX6_init_143 : decode cX6_init 143 = .ok (.invokevirtual 53, 3) := by decide +kernel
theorem dX6_init_146 : decode cX6_init 146 = .ok (.return_, 1) := by decide +kernel
theorem dX6_in_0 : decode cX6_in 0 = .ok (.iload_n 0, 1) := by decide +kernel
theorem dX6_in_1 : decode cX6_in 1 = .ok (.iload_n 1, 1) := by decide +kernel
theorem dX6_in_2 : decode cX6_in 2 = .ok (.if_icmp .lt 12, 3) := by decide +kernel
theorem dX6_in_5 : decode cX6_in 5 = .ok (.iload_n 0, 1) := by decide +kernel
theorem dX6_in_6 : decode cX6_in 6 = .ok (.iload_n 2, 1) := by decide +kernel
theorem dX6_in_7 : decode cX6_in 7 = .ok (.if_icmp .gt 7, 3) := by decide +kernel
theorem dX6_in_10 : decode cX6_in 10 = .ok (.iconst 1, 1) := by decide +kernel
theorem dX6_in_11 : decode cX6_in 11 = .ok (.goto 4, 3) := by decide +kernel
theorem dX6_in_14 : decode cX6_in 14 = .ok (.iconst 0, 1) := by decide +kernel
theorem dX6_in_15 : decode cX6_in 15 = .ok (.ireturn, 1) := by decide +kernel
theorem dX6_act_0 : decode cX6_act 0 = .ok (.aload_n 0, 1) := by decide +kernel
theorem dX6_act_1 : decode cX6_act 1 = .ok (.getfield 57, 3) := by decide +kernel
theorem dX6_act_4 : decode cX6_act 4 = .ok (.iconst 4, 1) := by decide +kernel
theorem dX6_act_5 : decode cX6_act 5 = .ok (.if_icmp .ne 43, 3) := by decide +kernel
theorem dX6_act_8 : decode cX6_act 8 = .ok (.iconst 0, 1) := by decide +kernel
theorem dX6_act_9 : decode cX6_act 9 = .ok (.istore_n 1, 1) := by decide +kernel
theorem dX6_act_10 : decode cX6_act 10 = .ok (.iload_n 1, 1) := by decide +kernel
theorem dX6_act_11 : decode cX6_act 11 = .ok (.sipush 300, 3) := by decide +kernel
theorem dX6_act_14 : decode cX6_act 14 = .ok (.if_icmp .ge 24, 3) := by decide +kernel
theorem dX6_act_17 : decode cX6_act 17 = .ok (.aload_n 0, 1) := by decide +kernel
theorem dX6_act_18 : decode cX6_act 18 = .ok (.getfield 16, 3) := by decide +kernel
theorem dX6_act_21 : decode cX6_act 21 = .ok (.iload_n 1, 1) := by decide +kernel
theorem dX6_act_22 : decode cX6_act 22 = .ok (.aload_n 0, 1) := by decide +kernel
theorem dX6_act_23 : decode cX6_act 23 = .ok (.getfield 16, 3) := by decide +kernel
theorem dX6_act_26 : decode cX6_act 26 = .ok (.iload_n 1, 1) := by decide +kernel
theorem dX6_act_27 : decode cX6_act 27 = .ok (.bipush 100, 2) := by decide +kernel
theorem dX6_act_29 : decode cX6_act 29 = .ok (.iadd, 1) := by decide +kernel
theorem dX6_act_30 : decode cX6_act 30 = .ok (.laload, 1) := by decide +kernel
theorem dX6_act_31 : decode cX6_act 31 = .ok (.lastore, 1) := by decide +kernel
theorem dX6_act_32 : decode cX6_act 32 = .ok (.iinc 1 1, 3) := by decide +kernel
theorem dX6_act_35 : decode cX6_act 35 = .ok (.goto (-25), 3) := by decide +kernel
theorem dX6_act_38 : decode cX6_act 38 = .ok (.aload_n 0, 1) := by decide +kernel
theorem dX6_act_39 : decode cX6_act 39 = .ok (.dup, 1) := by decide +kernel
theorem dX6_act_40 : decode cX6_act 40 = .ok (.getfield 57, 3) := by decide +kernel
theorem dX6_act_43 : decode cX6_act 43 = .ok (.iconst 1, 1) := by decide +kernel
theorem dX6_act_44 : decode cX6_act 44 = .ok (.isub, 1) := by decide +kernel
theorem dX6_act_45 : decode cX6_act 45 = .ok (.putfield 57, 3) := by decide +kernel
theorem dX6_act_48 : decode cX6_act 48 = .ok (.iconst 0, 1) := by decide +kernel
theorem dX6_act_49 : decode cX6_act 49 = .ok (.istore_n 1, 1) := by decide +kernel
theorem dX6_act_50 : decode cX6_act 50 = .ok (.iload_n 1, 1) := by decide +kernel
theorem dX6_act_51 : decode cX6_act 51 = .ok (.bipush 100, 2) := by decide +kernel
theorem dX6_act_53 : decode cX6_act 53 = .ok (.if_icmp .ge 29, 3) := by decide +kernel
theorem dX6_act_56 : decode cX6_act 56 = .ok (.aload_n 0, 1) := by decide +kernel
theorem dX6_act_57 : decode cX6_act 57 = .ok (.getfield 16, 3) := by decide +kernel
theorem dX6_act_60 : decode cX6_act 60 = .ok (.bipush 100, 2) := by decide +kernel
theorem dX6_act_62 : decode cX6_act 62 = .ok (.aload_n 0, 1) := by decide +kernel
theorem dX6_act_63 : decode cX6_act 63 = .ok (.getfield 57, 3) := by decide +kernel
theorem dX6_act_66 : decode cX6_act 66 = .ok (.imul, 1) := by decide +kernel
theorem dX6_act_67 : decode cX6_act 67 = .ok (.iload_n 1, 1) := by decide +kernel
theorem dX6_act_68 : decode cX6_act 68 = .ok (.iadd, 1) := by decide +kernel
theorem dX6_act_69 : decode cX6_act 69 = .ok (.aload_n 0, 1) := by decide +kernel
theorem dX6_act_70 : decode cX6_act 70 = .ok (.getfield 7, 3) := by decide +kernel
theorem dX6_act_73 : decode cX6_act 73 = .ok (.iload_n 1, 1) := by decide +kernel
theorem dX6_act_74 : decode cX6_act 74 = .ok (.laload, 1) := by decide +kernel
theorem dX6_act_75 : decode cX6_act 75 = .ok (.lastore, 1) := by decide +kernel
theorem dX6_act_76 : decode cX6_act 76 = .ok (.iinc 1 1, 3) := by decide +kernel
theorem dX6_act_79 : decode cX6_act 79 = .ok (.goto (-29), 3) := by decide +kernel
theorem dX6_act_82 : decode cX6_act 82 = .ok (.aload_n 0, 1) := by decide +kernel
theorem dX6_act_83 : decode cX6_act 83 = .ok (.dup, 1) := by decide +kernel
theorem dX6_act_84 : decode cX6_act 84 = .ok (.getfield 57, 3) := by decide +kernel
theorem dX6_act_87 : decode cX6_act 87 = .ok (.iconst 1, 1) := by decide +kernel
theorem dX6_act_88 : decode cX6_act 88 = .ok (.iadd, 1) := by decide +kernel
theorem dX6_act_89 : decode cX6_act 89 = .ok (.putfield 57, 3) := by decide +kernel
theorem dX6_act_92 : decode cX6_act 92 = .ok (.return_, 1) := by decide +kernel
theorem dX6_copies_0 : decode cX6_copies 0 = .ok (.iconst 0, 1) := by decide +kernel
theorem dX6_copies_1 : decode cX6_copies 1 = .ok (.istore_n 2, 1) := by decide +kernel
theorem dX6_copies_2 : decode cX6_copies 2 = .ok (.iload_n 2, 1) := by decide +kernel
theorem dX6_copies_3 : decode cX6_copies 3 = .ok (.bipush 100, 2) := by decide +kernel
theorem dX6_copies_5 : decode cX6_copies 5 = .ok (.if_icmp .ge 15, 3) := by decide +kernel
theorem dX6_copies_8 : decode cX6_copies 8 = .ok (.aload_n 1, 1) := by decide +kernel
theorem dX6_copies_9 : decode cX6_copies 9 = .ok (.iload_n 2, 1) := by decide +kernel
theorem dX6_copies_10 : decode cX6_copies 10 = .ok (.aload_n 0, 1) := by decide +kernel
theorem dX6_copies_11 : decode cX6_copies 11 = .ok (.iload_n 2, 1) := by decide +kernel
theorem dX6_copies_12 : decode cX6_copies 12 = .ok (.laload, 1) := by decide +kernel
theorem dX6_copies_13 : decode cX6_copies 13 = .ok (.lastore, 1) := by decide +kernel
theorem dX6_copies_14 : decode cX6_copies 14 = .ok (.iinc 2 1, 3) := by decide +kernel
theorem dX6_copies_17 : decode cX6_copies 17 = .ok (.goto (-15), 3) := by decide +kernel
theorem dX6_copies_20 : decode cX6_copies 20 = .ok (.return_, 1) := by decide +kernel
theorem dX6_div_0 : decode cX6_div 0 = .ok (.lload_n 0, 1) := by decide +kernel
theorem dX6_div_1 : decode cX6_div 1 = .ok (.lload_n 2, 1) := by decide +kernel
theorem dX6_div_2 : decode cX6_div 2 = .ok (.lrem, 1) := by decide +kernel
theorem dX6_div_3 : decode cX6_div 3 = .ok (.lstore 4, 2) := by decide +kernel
theorem dX6_div_5 : decode cX6_div 5 = .ok (.lload_n 0, 1) := by decide +kernel
theorem dX6_div_6 : decode cX6_div 6 = .ok (.lload 4, 2) := by decide +kernel
theorem dX6_div_8 : decode cX6_div 8 = .ok (.lconst 0, 1) := by decide +kernel
theorem dX6_div_9 : decode cX6_div 9 = .ok (.lcmp, 1) := by decide +kernel
theorem dX6_div_10 : decode cX6_div 10 = .ok (.ifCond .ge 10, 3) := by decide +kernel
theorem dX6_div_13 : decode cX6_div 13 = .ok (.lload 4, 2) := by decide +kernel
theorem dX6_div_15 : decode cX6_div 15 = .ok (.lload_n 2, 1) := by decide +kernel
theorem dX6_div_16 : decode cX6_div 16 = .ok (.ladd, 1) := by decide +kernel
theorem dX6_div_17 : decode cX6_div 17 = .ok (.goto 5, 3) := by decide +kernel
theorem dX6_div_20 : decode cX6_div 20 = .ok (.lload 4, 2) := by decide +kernel
theorem dX6_div_22 : decode cX6_div 22 = .ok (.lsub, 1) := by decide +kernel
theorem dX6_div_23 : decode cX6_div 23 = .ok (.lload_n 2, 1) := by decide +kernel
theorem dX6_div_24 : decode cX6_div 24 = .ok (.ldiv, 1) := by decide +kernel
theorem dX6_div_25 : decode cX6_div 25 = .ok (.lreturn, 1) := by decide +kernel
set_option maxRecDepth 20000 in
theorem ggX6_nearest_X6_div : GoodIn wsX6_nearest wsX6_div := goodIn_r _ [5] (by decide +kernel) (by decide +kernel)
set_option maxRecDepth 20000 in
theorem gX6_nearest_X6_div : GoodIn wsX6_nearest (va_wsS RX6 63 yX6_div wsX6_div) := goodIn_app (goodIn_of _ (by decide +kernel)) ggX6_nearest_X6_div
theorem dX6_nearest_0 : decode cX6_nearest 0 = .ok (.ldc2_w 61, 3) := by decide +kernel
theorem dX6_nearest_3 : decode cX6_nearest 3 = .ok (.lload_n 0, 1) := by decide +kernel
theorem dX6_nearest_4 : decode cX6_nearest 4 = .ok (.lmul, 1) := by decide +kernel
theorem dX6_nearest_5 : decode cX6_nearest 5 = .ok (.lload_n 2, 1) := by decide +kernel
theorem dX6_nearest_6 : decode cX6_nearest 6 = .ok (.ladd, 1) := by decide +kernel
theorem dX6_nearest_7 : decode cX6_nearest 7 = .ok (.ldc2_w 61, 3) := by decide +kernel
theorem dX6_nearest_10 : decode cX6_nearest 10 = .ok (.lload_n 2, 1) := by decide +kernel
theorem dX6_nearest_11 : decode cX6_nearest 11 = .ok (.lmul, 1) := by decide +kernel
theorem dX6_nearest_12 : decode cX6_nearest 12 = .ok (.invokestatic 63, 3) := by decide +kernel
theorem dX6_nearest_15 : decode cX6_nearest 15 = .ok (.lreturn, 1) := by decide +kernel
theorem dX6_held_0 : decode cX6_held 0 = .ok (.lload_n 0, 1) := by decide +kernel
theorem dX6_held_1 : decode cX6_held 1 = .ok (.lload_n 2, 1) := by decide +kernel
theorem dX6_held_2 : decode cX6_held 2 = .ok (.lcmp, 1) := by decide +kernel
theorem dX6_held_3 : decode cX6_held 3 = .ok (.ifCond .le 7, 3) := by decide +kernel
theorem dX6_held_6 : decode cX6_held 6 = .ok (.lload_n 2, 1) := by decide +kernel
theorem dX6_held_7 : decode cX6_held 7 = .ok (.goto 16, 3) := by decide +kernel
theorem dX6_held_10 : decode cX6_held 10 = .ok (.lload_n 0, 1) := by decide +kernel
theorem dX6_held_11 : decode cX6_held 11 = .ok (.lload_n 2, 1) := by decide +kernel
theorem dX6_held_12 : decode cX6_held 12 = .ok (.lneg, 1) := by decide +kernel
theorem dX6_held_13 : decode cX6_held 13 = .ok (.lcmp, 1) := by decide +kernel
theorem dX6_held_14 : decode cX6_held 14 = .ok (.ifCond .ge 8, 3) := by decide +kernel
theorem dX6_held_17 : decode cX6_held 17 = .ok (.lload_n 2, 1) := by decide +kernel
theorem dX6_held_18 : decode cX6_held 18 = .ok (.lneg, 1) := by decide +kernel
theorem dX6_held_19 : decode cX6_held 19 = .ok (.goto 4, 3) := by decide +kernel
theorem dX6_held_22 : decode cX6_held 22 = .ok (.lload_n 0, 1) := by decide +kernel
theorem dX6_held_23 : decode cX6_held 23 = .ok (.lreturn, 1) := by decide +kernel
theorem dX6_size_0 : decode cX6_size 0 = .ok (.lload_n 0, 1) := by decide +kernel
theorem dX6_size_1 : decode cX6_size 1 = .ok (.lconst 0, 1) := by decide +kernel
theorem dX6_size_2 : decode cX6_size 2 = .ok (.lcmp, 1) := by decide +kernel
theorem dX6_size_3 : decode cX6_size 3 = .ok (.ifCond .ge 8, 3) := by decide +kernel
theorem dX6_size_6 : decode cX6_size 6 = .ok (.lload_n 0, 1) := by decide +kernel
theorem dX6_size_7 : decode cX6_size 7 = .ok (.lneg, 1) := by decide +kernel
theorem dX6_size_8 : decode cX6_size 8 = .ok (.goto 4, 3) := by decide +kernel
theorem dX6_size_11 : decode cX6_size 11 = .ok (.lload_n 0, 1) := by decide +kernel
theorem dX6_size_12 : decode cX6_size 12 = .ok (.lreturn, 1) := by decide +kernel
theorem dX6_axisAt_0 : decode cX6_axisAt 0 = .ok (.bipush 12, 2) := by decide +kernel
theorem dX6_axisAt_2 : decode cX6_axisAt 2 = .ok (.bipush 8, 2) := by decide +kernel
theorem dX6_axisAt_4 : decode cX6_axisAt 4 = .ok (.iload_n 0, 1) := by decide +kernel
theorem dX6_axisAt_5 : decode cX6_axisAt 5 = .ok (.imul, 1) := by decide +kernel
theorem dX6_axisAt_6 : decode cX6_axisAt 6 = .ok (.iadd, 1) := by decide +kernel
theorem dX6_axisAt_7 : decode cX6_axisAt 7 = .ok (.iload_n 1, 1) := by decide +kernel
theorem dX6_axisAt_8 : decode cX6_axisAt 8 = .ok (.iadd, 1) := by decide +kernel
theorem dX6_axisAt_9 : decode cX6_axisAt 9 = .ok (.ireturn, 1) := by decide +kernel
theorem dX6_wheelAt_0 : decode cX6_wheelAt 0 = .ok (.bipush 40, 2) := by decide +kernel
theorem dX6_wheelAt_2 : decode cX6_wheelAt 2 = .ok (.bipush 8, 2) := by decide +kernel
theorem dX6_wheelAt_4 : decode cX6_wheelAt 4 = .ok (.iload_n 0, 1) := by decide +kernel
theorem dX6_wheelAt_5 : decode cX6_wheelAt 5 = .ok (.imul, 1) := by decide +kernel
theorem dX6_wheelAt_6 : decode cX6_wheelAt 6 = .ok (.iadd, 1) := by decide +kernel
theorem dX6_wheelAt_7 : decode cX6_wheelAt 7 = .ok (.iload_n 1, 1) := by decide +kernel
theorem dX6_wheelAt_8 : decode cX6_wheelAt 8 = .ok (.iadd, 1) := by decide +kernel
theorem dX6_wheelAt_9 : decode cX6_wheelAt 9 = .ok (.ireturn, 1) := by decide +kernel
set_option maxRecDepth 20000 in
theorem ggX6_isWheel_X6_in : GoodIn wsX6_isWheel wsX6_in := goodIn_r _ [5] (by decide +kernel) (by decide +kernel)
set_option maxRecDepth 20000 in
theorem gX6_isWheel_X6_in : GoodIn wsX6_isWheel (va_wsS RX6 67 yX6_in wsX6_in) := goodIn_app (goodIn_of _ (by decide +kernel)) ggX6_isWheel_X6_in
theorem dX6_isWheel_0 : decode cX6_isWheel 0 = .ok (.iload_n 1, 1) := by decide +kernel
theorem dX6_isWheel_1 : decode cX6_isWheel 1 = .ok (.iconst 0, 1) := by decide +kernel
theorem dX6_isWheel_2 : decode cX6_isWheel 2 = .ok (.aload_n 0, 1) := by decide +kernel
theorem dX6_isWheel_3 : decode cX6_isWheel 3 = .ok (.getfield 7, 3) := by decide +kernel
theorem dX6_isWheel_6 : decode cX6_isWheel 6 = .ok (.bipush 6, 2) := by decide +kernel
theorem dX6_isWheel_8 : decode cX6_isWheel 8 = .ok (.laload, 1) := by decide +kernel
theorem dX6_isWheel_9 : decode cX6_isWheel 9 = .ok (.l2i, 1) := by decide +kernel
theorem dX6_isWheel_10 : decode cX6_isWheel 10 = .ok (.iconst 1, 1) := by decide +kernel
theorem dX6_isWheel_11 : decode cX6_isWheel 11 = .ok (.isub, 1) := by decide +kernel
theorem dX6_isWheel_12 : decode cX6_isWheel 12 = .ok (.invokestatic 67, 3) := by decide +kernel
theorem dX6_isWheel_15 : decode cX6_isWheel 15 = .ok (.ireturn, 1) := by decide +kernel
set_option maxRecDepth 20000 in
theorem ggX6_works_X6_wheelAt : GoodIn wsX6_works wsX6_wheelAt := goodIn_r _ [5] (by decide +kernel) (by decide +kernel)
set_option maxRecDepth 20000 in
theorem gX6_works_X6_wheelAt : GoodIn wsX6_works (va_wsS RX6 71 yX6_wheelAt wsX6_wheelAt) := goodIn_app (goodIn_of _ (by decide +kernel)) ggX6_works_X6_wheelAt
theorem dX6_works_0 : decode cX6_works 0 = .ok (.aload_n 0, 1) := by decide +kernel
theorem dX6_works_1 : decode cX6_works 1 = .ok (.getfield 7, 3) := by decide +kernel
theorem dX6_works_4 : decode cX6_works 4 = .ok (.iload_n 1, 1) := by decide +kernel
theorem dX6_works_5 : decode cX6_works 5 = .ok (.bipush 6, 2) := by decide +kernel
theorem dX6_works_7 : decode cX6_works 7 = .ok (.invokestatic 71, 3) := by decide +kernel
theorem dX6_works_10 : decode cX6_works 10 = .ok (.laload, 1) := by decide +kernel
theorem dX6_works_11 : decode cX6_works 11 = .ok (.lconst 0, 1) := by decide +kernel
theorem dX6_works_12 : decode cX6_works 12 = .ok (.lcmp, 1) := by decide +kernel
theorem dX6_works_13 : decode cX6_works 13 = .ok (.ifCond .ne 7, 3) := by decide +kernel
theorem dX6_works_16 : decode cX6_works 16 = .ok (.iconst 1, 1) := by decide +kernel
theorem dX6_works_17 : decode cX6_works 17 = .ok (.goto 4, 3) := by decide +kernel
theorem dX6_works_20 : decode cX6_works 20 = .ok (.iconst 0, 1) := by decide +kernel
theorem dX6_works_21 : decode cX6_works 21 = .ok (.ireturn, 1) := by decide +kernel
theorem dX6_reasons_0 : decode cX6_reasons 0 = .ok (.aload_n 0, 1) := by decide +kernel
theorem dX6_reasons_1 : decode cX6_reasons 1 = .ok (.getfield 7, 3) := by decide +kernel
theorem dX6_reasons_4 : decode cX6_reasons 4 = .ok (.bipush 8, 2) := by decide +kernel
theorem dX6_reasons_6 : decode cX6_reasons 6 = .ok (.lload_n 1, 1) := by decide +kernel
theorem dX6_reasons_7 : decode cX6_reasons 7 = .ok (.lastore, 1) := by decide +kernel
theorem dX6_reasons_8 : decode cX6_reasons 8 = .ok (.aload_n 0, 1) := by decide +kernel
theorem dX6_reasons_9 : decode cX6_reasons 9 = .ok (.getfield 7, 3) := by decide +kernel
theorem dX6_reasons_12 : decode cX6_reasons 12 = .ok (.bipush 9, 2) := by decide +kernel
theorem dX6_reasons_14 : decode cX6_reasons 14 = .ok (.lload_n 3, 1) := by decide +kernel
theorem dX6_reasons_15 : decode cX6_reasons 15 = .ok (.lastore, 1) := by decide +kernel
theorem dX6_reasons_16 : decode cX6_reasons 16 = .ok (.aload_n 0, 1) := by decide +kernel
theorem dX6_reasons_17 : decode cX6_reasons 17 = .ok (.getfield 7, 3) := by decide +kernel
theorem dX6_reasons_20 : decode cX6_reasons 20 = .ok (.bipush 10, 2) := by decide +kernel
theorem dX6_reasons_22 : decode cX6_reasons 22 = .ok (.lload 5, 2) := by decide +kernel
theorem dX6_reasons_24 : decode cX6_reasons 24 = .ok (.lastore, 1) := by decide +kernel
theorem dX6_reasons_25 : decode cX6_reasons 25 = .ok (.return_, 1) := by decide +kernel
set_option maxRecDepth 20000 in
theorem ggX6_isPart_X6_in : GoodIn wsX6_isPart wsX6_in := goodIn_r _ [4] (by decide +kernel) (by decide +kernel)
set_option maxRecDepth 20000 in
theorem gX6_isPart_X6_in : GoodIn wsX6_isPart (va_wsS RX6 67 yX6_in wsX6_in) := goodIn_app (goodIn_of _ (by decide +kernel)) ggX6_isPart_X6_in
theorem dX6_isPart_0 : decode cX6_isPart 0 = .ok (.iload_n 0, 1) := by decide +kernel
theorem dX6_isPart_1 : decode cX6_isPart 1 = .ok (.bipush (-9), 2) := by decide +kernel
theorem dX6_isPart_3 : decode cX6_isPart 3 = .ok (.bipush 9, 2) := by decide +kernel
theorem dX6_isPart_5 : decode cX6_isPart 5 = .ok (.invokestatic 67, 3) := by decide +kernel
theorem dX6_isPart_8 : decode cX6_isPart 8 = .ok (.ireturn, 1) := by decide +kernel
set_option maxRecDepth 20000 in
theorem ggX6_addWheel_X6_isPart : GoodIn wsX6_addWheel wsX6_isPart := goodIn_r _ [10, 11, 12, 9, 13] (by decide +kernel) (by decide +kernel)
set_option maxRecDepth 20000 in
theorem gX6_addWheel_X6_isPart : GoodIn wsX6_addWheel (va_wsS RX6 74 yX6_isPart wsX6_isPart) := goodIn_app (goodIn_of _ (by decide +kernel)) ggX6_addWheel_X6_isPart
set_option maxRecDepth 20000 in
theorem ggX6_addWheel_X6_in : GoodIn wsX6_addWheel wsX6_in := goodIn_r _ [13] (by decide +kernel) (by decide +kernel)
set_option maxRecDepth 20000 in
theorem gX6_addWheel_X6_in : GoodIn wsX6_addWheel (va_wsS RX6 67 yX6_in wsX6_in) := goodIn_app (goodIn_of _ (by decide +kernel)) ggX6_addWheel_X6_in
set_option maxRecDepth 20000 in
theorem ggX6_addWheel_X6_act : GoodIn wsX6_addWheel wsX6_act := goodIn_r _ [17, 18, 19, 4, 23, 24, 25, 26, 27, 28, 29, 30, 31, 32, 33] (by decide +kernel) (by decide +kernel)
set_option maxRecDepth 20000 in
theorem gX6_addWheel_X6_act : GoodIn wsX6_addWheel (wsV RX6 84 RX6 yX6_act wsX6_act) := goodIn_app (goodIn_of _ (by decide +kernel)) ggX6_addWheel_X6_act
set_option maxRecDepth 20000 in
theorem ggX6_addWheel_X6_wheelAt : GoodIn wsX6_addWheel wsX6_wheelAt := goodIn_r _ [22] (by decide +kernel) (by decide +kernel)
set_option maxRecDepth 20000 in
theorem gX6_addWheel_X6_wheelAt : GoodIn wsX6_addWheel (va_wsS RX6 71 yX6_wheelAt wsX6_wheelAt) := goodIn_app (goodIn_of _ (by decide +kernel)) ggX6_addWheel_X6_wheelAt
theorem dX6_addWheel_0 : decode cX6_addWheel 0 = .ok (.iload_n 1, 1) := by decide +kernel
theorem dX6_addWheel_1 : decode cX6_addWheel 1 = .ok (.invokestatic 74, 3) := by decide +kernel
theorem dX6_addWheel_4 : decode cX6_addWheel 4 = .ok (.ifCond .eq 51, 3) := by decide +kernel
theorem dX6_addWheel_7 : decode cX6_addWheel 7 = .ok (.iload_n 2, 1) := by decide +kernel
theorem dX6_addWheel_8 : decode cX6_addWheel 8 = .ok (.invokestatic 74, 3) := by decide +kernel
theorem dX6_addWheel_11 : decode cX6_addWheel 11 = .ok (.ifCond .eq 44, 3) := by decide +kernel
theorem dX6_addWheel_14 : decode cX6_addWheel 14 = .ok (.iload_n 3, 1) := by decide +kernel
theorem dX6_addWheel_15 : decode cX6_addWheel 15 = .ok (.invokestatic 74, 3) := by decide +kernel
theorem dX6_addWheel_18 : decode cX6_addWheel 18 = .ok (.ifCond .eq 37, 3) := by decide +kernel
theorem dX6_addWheel_21 : decode cX6_addWheel 21 = .ok (.iload_n 1, 1) := by decide +kernel
theorem dX6_addWheel_22 : decode cX6_addWheel 22 = .ok (.ifCond .ne 11, 3) := by decide +kernel
theorem dX6_addWheel_25 : decode cX6_addWheel 25 = .ok (.iload_n 2, 1) := by decide +kernel
theorem dX6_addWheel_26 : decode cX6_addWheel 26 = .ok (.ifCond .ne 7, 3) := by decide +kernel
theorem dX6_addWheel_29 : decode cX6_addWheel 29 = .ok (.iload_n 3, 1) := by decide +kernel
theorem dX6_addWheel_30 : decode cX6_addWheel 30 = .ok (.ifCond .eq 25, 3) := by decide +kernel
theorem dX6_addWheel_33 : decode cX6_addWheel 33 = .ok (.iload 4, 2) := by decide +kernel
theorem dX6_addWheel_35 : decode cX6_addWheel 35 = .ok (.iconst 1, 1) := by decide +kernel
theorem dX6_addWheel_36 : decode cX6_addWheel 36 = .ok (.ldc 78, 2) := by decide +kernel
theorem dX6_addWheel_38 : decode cX6_addWheel 38 = .ok (.invokestatic 67, 3) := by decide +kernel
theorem dX6_addWheel_41 : decode cX6_addWheel 41 = .ok (.ifCond .eq 14, 3) := by decide +kernel
theorem dX6_addWheel_44 : decode cX6_addWheel 44 = .ok (.iload 5, 2) := by decide +kernel
theorem dX6_addWheel_46 : decode cX6_addWheel 46 = .ok (.iconst 1, 1) := by decide +kernel
theorem dX6_addWheel_47 : decode cX6_addWheel 47 = .ok (.ldc 79, 2) := by decide +kernel
theorem dX6_addWheel_49 : decode cX6_addWheel 49 = .ok (.invokestatic 67, 3) := by decide +kernel
theorem dX6_addWheel_52 : decode cX6_addWheel 52 = .ok (.ifCond .ne 6, 3) := by decide +kernel
theorem dX6_addWheel_55 : decode cX6_addWheel 55 = .ok (.ldc 80, 2) := by decide +kernel
theorem dX6_addWheel_57 : decode cX6_addWheel 57 = .ok (.ireturn, 1) := by decide +kernel
theorem dX6_addWheel_58 : decode cX6_addWheel 58 = .ok (.aload_n 0, 1) := by decide +kernel
theorem dX6_addWheel_59 : decode cX6_addWheel 59 = .ok (.getfield 7, 3) := by decide +kernel
theorem dX6_addWheel_62 : decode cX6_addWheel 62 = .ok (.bipush 6, 2) := by decide +kernel
theorem dX6_addWheel_64 : decode cX6_addWheel 64 = .ok (.laload, 1) := by decide +kernel
theorem dX6_addWheel_65 : decode cX6_addWheel 65 = .ok (.ldc2_w 81, 3) := by decide +kernel
theorem dX6_addWheel_68 : decode cX6_addWheel 68 = .ok (.lcmp, 1) := by decide +kernel
theorem dX6_addWheel_69 : decode cX6_addWheel 69 = .ok (.ifCond .ne 6, 3) := by decide +kernel
theorem dX6_addWheel_72 : decode cX6_addWheel 72 = .ok (.ldc 83, 2) := by decide +kernel
theorem dX6_addWheel_74 : decode cX6_addWheel 74 = .ok (.ireturn, 1) := by decide +kernel
theorem dX6_addWheel_75 : decode cX6_addWheel 75 = .ok (.aload_n 0, 1) := by decide +kernel
theorem dX6_addWheel_76 : decode cX6_addWheel 76 = .ok (.invokevirtual 84, 3) := by decide +kernel
theorem dX6_addWheel_79 : decode cX6_addWheel 79 = .ok (.aload_n 0, 1) := by decide +kernel
theorem dX6_addWheel_80 : decode cX6_addWheel 80 = .ok (.getfield 7, 3) := by decide +kernel
theorem dX6_addWheel_83 : decode cX6_addWheel 83 = .ok (.bipush 6, 2) := by decide +kernel
theorem dX6_addWheel_85 : decode cX6_addWheel 85 = .ok (.laload, 1) := by decide +kernel
theorem dX6_addWheel_86 : decode cX6_addWheel 86 = .ok (.l2i, 1) := by decide +kernel
theorem dX6_addWheel_87 : decode cX6_addWheel 87 = .ok (.istore 6, 2) := by decide +kernel
theorem dX6_addWheel_89 : decode cX6_addWheel 89 = .ok (.aload_n 0, 1) := by decide +kernel
theorem dX6_addWheel_90 : decode cX6_addWheel 90 = .ok (.getfield 7, 3) := by decide +kernel
theorem dX6_addWheel_93 : decode cX6_addWheel 93 = .ok (.iload 6, 2) := by decide +kernel
theorem dX6_addWheel_95 : decode cX6_addWheel 95 = .ok (.iconst 0, 1) := by decide +kernel
theorem dX6_addWheel_96 : decode cX6_addWheel 96 = .ok (.invokestatic 71, 3) := by decide +kernel
theorem dX6_addWheel_99 : decode cX6_addWheel 99 = .ok (.iload_n 1, 1) := by decide +kernel
theorem dX6_addWheel_100 : decode cX6_addWheel 100 = .ok (.i2l, 1) := by decide +kernel
theorem dX6_addWheel_101 : decode cX6_addWheel 101 = .ok (.lastore, 1) := by decide +kernel
theorem dX6_addWheel_102 : decode cX6_addWheel 102 = .ok (.aload_n 0, 1) := by decide +kernel
theorem dX6_addWheel_103 : decode cX6_addWheel 103 = .ok (.getfield 7, 3) := by decide +kernel
theorem dX6_addWheel_106 : decode cX6_addWheel 106 = .ok (.iload 6, 2) := by decide +kernel
theorem dX6_addWheel_108 : decode cX6_addWheel 108 = .ok (.iconst 1, 1) := by decide +kernel
theorem dX6_addWheel_109 : decode cX6_addWheel 109 = .ok (.invokestatic 71, 3) := by decide +kernel
theorem dX6_addWheel_112 : decode cX6_addWheel 112 = .ok (.iload_n 2, 1) := by decide +kernel
theorem dX6_addWheel_113 : decode cX6_addWheel 113 = .ok (.i2l, 1) := by decide +kernel
theorem dX6_addWheel_114 : decode cX6_addWheel 114 = .ok (.lastore, 1) := by decide +kernel
theorem dX6_addWheel_115 : decode cX6_addWheel 115 = .ok (.aload_n 0, 1) := by decide +kernel
theorem dX6_addWheel_116 : decode cX6_addWheel 116 = .ok (.getfield 7, 3) := by decide +kernel
theorem dX6_addWheel_119 : decode cX6_addWheel 119 = .ok (.iload 6, 2) := by decide +kernel
theorem dX6_addWheel_121 : decode cX6_addWheel 121 = .ok (.iconst 2, 1) := by decide +kernel
theorem dX6_addWheel_122 : decode cX6_addWheel 122 = .ok (.invokestatic 71, 3) := by decide +kernel
theorem dX6_addWheel_125 : decode cX6_addWheel 125 = .ok (.iload_n 3, 1) := by decide +kernel
theorem dX6_addWheel_126 : decode cX6_addWheel 126 = .ok (.i2l, 1) := by decide +kernel
theorem dX6_addWheel_127 : decode cX6_addWheel 127 = .ok (.lastore, 1) := by decide +kernel
theorem dX6_addWheel_128 : decode cX6_addWheel 128 = .ok (.aload_n 0, 1) := by decide +kernel
theorem dX6_addWheel_129 : decode cX6_addWheel 129 = .ok (.getfield 7, 3) := by decide +kernel
theorem dX6_addWheel_132 : decode cX6_addWheel 132 = .ok (.iload 6, 2) := by decide +kernel
theorem dX6_addWheel_134 : decode cX6_addWheel 134 = .ok (.iconst 3, 1) := by decide +kernel
theorem dX6_addWheel_135 : decode cX6_addWheel 135 = .ok (.invokestatic 71, 3) := by decide +kernel
theorem dX6_addWheel_138 : decode cX6_addWheel 138 = .ok (.lconst 0, 1) := by decide +kernel
theorem dX6_addWheel_139 : decode cX6_addWheel 139 = .ok (.lastore, 1) := by decide +kernel
theorem dX6_addWheel_140 : decode cX6_addWheel 140 = .ok (.aload_n 0, 1) := by decide +kernel
theorem dX6_addWheel_141 : decode cX6_addWheel 141 = .ok (.getfield 7, 3) := by decide +kernel
theorem dX6_addWheel_144 : decode cX6_addWheel 144 = .ok (.iload 6, 2) := by decide +kernel
theorem dX6_addWheel_146 : decode cX6_addWheel 146 = .ok (.iconst 4, 1) := by decide +kernel
theorem dX6_addWheel_147 : decode cX6_addWheel 147 = .ok (.invokestatic 71, 3) := by decide +kernel
theorem dX6_addWheel_150 : decode cX6_addWheel 150 = .ok (.iload 4, 2) := by decide +kernel
theorem dX6_addWheel_152 : decode cX6_addWheel 152 = .ok (.i2l, 1) := by decide +kernel
theorem dX6_addWheel_153 : decode cX6_addWheel 153 = .ok (.lastore, 1) := by decide +kernel
theorem dX6_addWheel_154 : decode cX6_addWheel 154 = .ok (.aload_n 0, 1) := by decide +kernel
theorem dX6_addWheel_155 : decode cX6_addWheel 155 = .ok (.getfield 7, 3) := by decide +kernel
theorem dX6_addWheel_158 : decode cX6_addWheel 158 = .ok (.iload 6, 2) := by decide +kernel
theorem dX6_addWheel_160 : decode cX6_addWheel 160 = .ok (.iconst 5, 1) := by decide +kernel
theorem dX6_addWheel_161 : decode cX6_addWheel 161 = .ok (.invokestatic 71, 3) := by decide +kernel
theorem dX6_addWheel_164 : decode cX6_addWheel 164 = .ok (.iload 5, 2) := by decide +kernel
theorem dX6_addWheel_166 : decode cX6_addWheel 166 = .ok (.i2l, 1) := by decide +kernel
theorem dX6_addWheel_167 : decode cX6_addWheel 167 = .ok (.lastore, 1) := by decide +kernel
theorem dX6_addWheel_168 : decode cX6_addWheel 168 = .ok (.aload_n 0, 1) := by decide +kernel
theorem dX6_addWheel_169 : decode cX6_addWheel 169 = .ok (.getfield 7, 3) := by decide +kernel
theorem dX6_addWheel_172 : decode cX6_addWheel 172 = .ok (.iload 6, 2) := by decide +kernel
theorem dX6_addWheel_174 : decode cX6_addWheel 174 = .ok (.bipush 6, 2) := by decide +kernel
theorem dX6_addWheel_176 : decode cX6_addWheel 176 = .ok (.invokestatic 71, 3) := by decide +kernel
theorem dX6_addWheel_179 : decode cX6_addWheel 179 = .ok (.lconst 0, 1) := by decide +kernel
theorem dX6_addWheel_180 : decode cX6_addWheel 180 = .ok (.lastore, 1) := by decide +kernel
theorem dX6_addWheel_181 : decode cX6_addWheel 181 = .ok (.aload_n 0, 1) := by decide +kernel
theorem dX6_addWheel_182 : decode cX6_addWheel 182 = .ok (.getfield 7, 3) := by decide +kernel
theorem dX6_addWheel_185 : decode cX6_addWheel 185 = .ok (.iload 6, 2) := by decide +kernel
theorem dX6_addWheel_187 : decode cX6_addWheel 187 = .ok (.bipush 7, 2) := by decide +kernel
theorem dX6_addWheel_189 : decode cX6_addWheel 189 = .ok (.invokestatic 71, 3) := by decide +kernel
theorem dX6_addWheel_192 : decode cX6_addWheel 192 = .ok (.lconst 0, 1) := by decide +kernel
theorem dX6_addWheel_193 : decode cX6_addWheel 193 = .ok (.lastore, 1) := by decide +kernel
theorem dX6_addWheel_194 : decode cX6_addWheel 194 = .ok (.aload_n 0, 1) := by decide +kernel
theorem dX6_addWheel_195 : decode cX6_addWheel 195 = .ok (.getfield 7, 3) := by decide +kernel
theorem dX6_addWheel_198 : decode cX6_addWheel 198 = .ok (.bipush 6, 2) := by decide +kernel
theorem dX6_addWheel_200 : decode cX6_addWheel 200 = .ok (.dup2, 1) := by decide +kernel
theorem dX6_addWheel_201 : decode cX6_addWheel 201 = .ok (.laload, 1) := by decide +kernel
theorem dX6_addWheel_202 : decode cX6_addWheel 202 = .ok (.lconst 1, 1) := by decide +kernel
theorem dX6_addWheel_203 : decode cX6_addWheel 203 = .ok (.ladd, 1) := by decide +kernel
theorem dX6_addWheel_204 : decode cX6_addWheel 204 = .ok (.lastore, 1) := by decide +kernel
theorem dX6_addWheel_205 : decode cX6_addWheel 205 = .ok (.iload 6, 2) := by decide +kernel
theorem dX6_addWheel_207 : decode cX6_addWheel 207 = .ok (.ireturn, 1) := by decide +kernel
set_option maxRecDepth 20000 in
theorem ggX6_sets_X6_act : GoodIn wsX6_sets wsX6_act := goodIn_r _ [6, 7, 8, 1, 9, 10, 11, 12, 13, 14, 15, 16, 17, 18, 19] (by decide +kernel) (by decide +kernel)
set_option maxRecDepth 20000 in
theorem gX6_sets_X6_act : GoodIn wsX6_sets (wsV RX6 84 RX6 yX6_act wsX6_act) := goodIn_app (goodIn_of _ (by decide +kernel)) ggX6_sets_X6_act
theorem dX6_sets_0 : decode cX6_sets 0 = .ok (.aload_n 0, 1) := by decide +kernel
theorem dX6_sets_1 : decode cX6_sets 1 = .ok (.invokevirtual 84, 3) := by decide +kernel
theorem dX6_sets_4 : decode cX6_sets 4 = .ok (.aload_n 0, 1) := by decide +kernel
theorem dX6_sets_5 : decode cX6_sets 5 = .ok (.getfield 7, 3) := by decide +kernel
theorem dX6_sets_8 : decode cX6_sets 8 = .ok (.iload_n 1, 1) := by decide +kernel
theorem dX6_sets_9 : decode cX6_sets 9 = .ok (.laload, 1) := by decide +kernel
theorem dX6_sets_10 : decode cX6_sets 10 = .ok (.l2i, 1) := by decide +kernel
theorem dX6_sets_11 : decode cX6_sets 11 = .ok (.istore_n 3, 1) := by decide +kernel
theorem dX6_sets_12 : decode cX6_sets 12 = .ok (.aload_n 0, 1) := by decide +kernel
theorem dX6_sets_13 : decode cX6_sets 13 = .ok (.getfield 7, 3) := by decide +kernel
theorem dX6_sets_16 : decode cX6_sets 16 = .ok (.iload_n 1, 1) := by decide +kernel
theorem dX6_sets_17 : decode cX6_sets 17 = .ok (.iload_n 2, 1) := by decide +kernel
theorem dX6_sets_18 : decode cX6_sets 18 = .ok (.i2l, 1) := by decide +kernel
theorem dX6_sets_19 : decode cX6_sets 19 = .ok (.lastore, 1) := by decide +kernel
theorem dX6_sets_20 : decode cX6_sets 20 = .ok (.iload_n 3, 1) := by decide +kernel
theorem dX6_sets_21 : decode cX6_sets 21 = .ok (.ireturn, 1) := by decide +kernel
set_option maxRecDepth 20000 in
theorem ggX6_fail_X6_isWheel : GoodIn wsX6_fail wsX6_isWheel := goodIn_r _ [6, 7, 8, 9, 5, 10, 24, 25, 26, 27, 28, 29, 30, 31, 32, 33, 34] (by decide +kernel) (by decide +kernel)
set_option maxRecDepth 20000 in
theorem gX6_fail_X6_isWheel : GoodIn wsX6_fail (wsV RX6 87 RX6 yX6_isWheel wsX6_isWheel) := goodIn_app (goodIn_of _ (by decide +kernel)) ggX6_fail_X6_isWheel
set_option maxRecDepth 20000 in
theorem ggX6_fail_X6_wheelAt : GoodIn wsX6_fail wsX6_wheelAt := goodIn_r _ [13] (by decide +kernel) (by decide +kernel)
set_option maxRecDepth 20000 in
theorem gX6_fail_X6_wheelAt : GoodIn wsX6_fail (va_wsS RX6 71 yX6_wheelAt wsX6_wheelAt) := goodIn_app (goodIn_of _ (by decide +kernel)) ggX6_fail_X6_wheelAt
set_option maxRecDepth 20000 in
theorem ggX6_fail_X6_sets : GoodIn wsX6_fail wsX6_sets := goodIn_r _ [17, 7, 18, 19, 20, 5, 21, 22, 23, 24, 25, 26, 27, 28, 29, 30, 31, 32, 33, 34] (by decide +kernel) (by decide +kernel)
set_option maxRecDepth 20000 in
theorem gX6_fail_X6_sets : GoodIn wsX6_fail (wsV RX6 90 RX6 yX6_sets wsX6_sets) := goodIn_app (goodIn_of _ (by decide +kernel)) ggX6_fail_X6_sets
theorem dX6_fail_0 : decode cX6_fail 0 = .ok (.aload_n 0, 1) := by decide +kernel
theorem dX6_fail_1 : decode cX6_fail 1 = .ok (.iload_n 1, 1) := by decide +kernel
theorem dX6_fail_2 : decode cX6_fail 2 = .ok (.invokevirtual 87, 3) := by decide +kernel
theorem dX6_fail_5 : decode cX6_fail 5 = .ok (.ifCond .eq 25, 3) := by decide +kernel
theorem dX6_fail_8 : decode cX6_fail 8 = .ok (.aload_n 0, 1) := by decide +kernel
theorem dX6_fail_9 : decode cX6_fail 9 = .ok (.iload_n 1, 1) := by decide +kernel
theorem dX6_fail_10 : decode cX6_fail 10 = .ok (.bipush 6, 2) := by decide +kernel
theorem dX6_fail_12 : decode cX6_fail 12 = .ok (.invokestatic 71, 3) := by decide +kernel
theorem dX6_fail_15 : decode cX6_fail 15 = .ok (.iload_n 2, 1) := by decide +kernel
theorem dX6_fail_16 : decode cX6_fail 16 = .ok (.ifCond .eq 7, 3) := by decide +kernel
theorem dX6_fail_19 : decode cX6_fail 19 = .ok (.iconst 1, 1) := by decide +kernel
theorem dX6_fail_20 : decode cX6_fail 20 = .ok (.goto 4, 3) := by decide +kernel
theorem dX6_fail_23 : decode cX6_fail 23 = .ok (.iconst 0, 1) := by decide +kernel
theorem dX6_fail_24 : decode cX6_fail 24 = .ok (.invokevirtual 90, 3) := by decide +kernel
theorem dX6_fail_27 : decode cX6_fail 27 = .ok (.goto 5, 3) := by decide +kernel
theorem dX6_fail_30 : decode cX6_fail 30 = .ok (.ldc 80, 2) := by decide +kernel
theorem dX6_fail_32 : decode cX6_fail 32 = .ok (.ireturn, 1) := by decide +kernel
set_option maxRecDepth 20000 in
theorem ggX6_setMost_X6_isWheel : GoodIn wsX6_setMost wsX6_isWheel := goodIn_r _ [8, 9, 10, 11, 7, 12, 26, 27, 28, 29, 30, 31, 32, 33, 34, 35, 36] (by decide +kernel) (by decide +kernel)
set_option maxRecDepth 20000 in
theorem gX6_setMost_X6_isWheel : GoodIn wsX6_setMost (wsV RX6 87 RX6 yX6_isWheel wsX6_isWheel) := goodIn_app (goodIn_of _ (by decide +kernel)) ggX6_setMost_X6_isWheel
set_option maxRecDepth 20000 in
theorem ggX6_setMost_X6_in : GoodIn wsX6_setMost wsX6_in := goodIn_r _ [12] (by decide +kernel) (by decide +kernel)
set_option maxRecDepth 20000 in
theorem gX6_setMost_X6_in : GoodIn wsX6_setMost (va_wsS RX6 67 yX6_in wsX6_in) := goodIn_app (goodIn_of _ (by decide +kernel)) ggX6_setMost_X6_in
set_option maxRecDepth 20000 in
theorem ggX6_setMost_X6_wheelAt : GoodIn wsX6_setMost wsX6_wheelAt := goodIn_r _ [15] (by decide +kernel) (by decide +kernel)
set_option maxRecDepth 20000 in
theorem gX6_setMost_X6_wheelAt : GoodIn wsX6_setMost (va_wsS RX6 71 yX6_wheelAt wsX6_wheelAt) := goodIn_app (goodIn_of _ (by decide +kernel)) ggX6_setMost_X6_wheelAt
set_option maxRecDepth 20000 in
theorem ggX6_setMost_X6_sets : GoodIn wsX6_setMost wsX6_sets := goodIn_r _ [19, 9, 20, 21, 22, 7, 23, 24, 25, 26, 27, 28, 29, 30, 31, 32, 33, 34, 35, 36] (by decide +kernel) (by decide +kernel)
set_option maxRecDepth 20000 in
theorem gX6_setMost_X6_sets : GoodIn wsX6_setMost (wsV RX6 90 RX6 yX6_sets wsX6_sets) := goodIn_app (goodIn_of _ (by decide +kernel)) ggX6_setMost_X6_sets
theorem dX6_setMost_0 : decode cX6_setMost 0 = .ok (.aload_n 0, 1) := by decide +kernel
theorem dX6_setMost_1 : decode cX6_setMost 1 = .ok (.iload_n 1, 1) := by decide +kernel
theorem dX6_setMost_2 : decode cX6_setMost 2 = .ok (.invokevirtual 87, 3) := by decide +kernel
theorem dX6_setMost_5 : decode cX6_setMost 5 = .ok (.ifCond .eq 43, 3) := by decide +kernel
theorem dX6_setMost_8 : decode cX6_setMost 8 = .ok (.iload_n 3, 1) := by decide +kernel
theorem dX6_setMost_9 : decode cX6_setMost 9 = .ok (.iconst 1, 1) := by decide +kernel
theorem dX6_setMost_10 : decode cX6_setMost 10 = .ok (.iload_n 2, 1) := by decide +kernel
theorem dX6_setMost_11 : decode cX6_setMost 11 = .ok (.ifCond .eq 8, 3) := by decide +kernel
theorem dX6_setMost_14 : decode cX6_setMost 14 = .ok (.ldc 79, 2) := by decide +kernel
theorem dX6_setMost_16 : decode cX6_setMost 16 = .ok (.goto 5, 3) := by decide +kernel
theorem dX6_setMost_19 : decode cX6_setMost 19 = .ok (.ldc 78, 2) := by decide +kernel
theorem dX6_setMost_21 : decode cX6_setMost 21 = .ok (.invokestatic 67, 3) := by decide +kernel
theorem dX6_setMost_24 : decode cX6_setMost 24 = .ok (.ifCond .eq 24, 3) := by decide +kernel
theorem dX6_setMost_27 : decode cX6_setMost 27 = .ok (.aload_n 0, 1) := by decide +kernel
theorem dX6_setMost_28 : decode cX6_setMost 28 = .ok (.iload_n 1, 1) := by decide +kernel
theorem dX6_setMost_29 : decode cX6_setMost 29 = .ok (.iload_n 2, 1) := by decide +kernel
theorem dX6_setMost_30 : decode cX6_setMost 30 = .ok (.ifCond .eq 7, 3) := by decide +kernel
theorem dX6_setMost_33 : decode cX6_setMost 33 = .ok (.iconst 5, 1) := by decide +kernel
theorem dX6_setMost_34 : decode cX6_setMost 34 = .ok (.goto 4, 3) := by decide +kernel
theorem dX6_setMost_37 : decode cX6_setMost 37 = .ok (.iconst 4, 1) := by decide +kernel
theorem dX6_setMost_38 : decode cX6_setMost 38 = .ok (.invokestatic 71, 3) := by decide +kernel
theorem dX6_setMost_41 : decode cX6_setMost 41 = .ok (.iload_n 3, 1) := by decide +kernel
theorem dX6_setMost_42 : decode cX6_setMost 42 = .ok (.invokevirtual 90, 3) := by decide +kernel
theorem dX6_setMost_45 : decode cX6_setMost 45 = .ok (.goto 5, 3) := by decide +kernel
theorem dX6_setMost_48 : decode cX6_setMost 48 = .ok (.ldc 80, 2) := by decide +kernel
theorem dX6_setMost_50 : decode cX6_setMost 50 = .ok (.ireturn, 1) := by decide +kernel
set_option maxRecDepth 20000 in
theorem ggX6_wheel_X6_isWheel : GoodIn wsX6_wheel wsX6_isWheel := goodIn_r _ [7, 1, 8, 9, 6, 10, 14, 15, 16, 17, 18, 19, 20, 21, 22, 23, 24] (by decide +kernel) (by decide +kernel)
set_option maxRecDepth 20000 in
theorem gX6_wheel_X6_isWheel : GoodIn wsX6_wheel (wsV RX6 87 RX6 yX6_isWheel wsX6_isWheel) := goodIn_app (goodIn_of _ (by decide +kernel)) ggX6_wheel_X6_isWheel
set_option maxRecDepth 20000 in
theorem ggX6_wheel_X6_in : GoodIn wsX6_wheel wsX6_in := goodIn_r _ [10] (by decide +kernel) (by decide +kernel)
set_option maxRecDepth 20000 in
theorem gX6_wheel_X6_in : GoodIn wsX6_wheel (va_wsS RX6 67 yX6_in wsX6_in) := goodIn_app (goodIn_of _ (by decide +kernel)) ggX6_wheel_X6_in
set_option maxRecDepth 20000 in
theorem ggX6_wheel_X6_wheelAt : GoodIn wsX6_wheel wsX6_wheelAt := goodIn_r _ [13] (by decide +kernel) (by decide +kernel)
set_option maxRecDepth 20000 in
theorem gX6_wheel_X6_wheelAt : GoodIn wsX6_wheel (va_wsS RX6 71 yX6_wheelAt wsX6_wheelAt) := goodIn_app (goodIn_of _ (by decide +kernel)) ggX6_wheel_X6_wheelAt
theorem dX6_wheel_0 : decode cX6_wheel 0 = .ok (.aload_n 0, 1) := by decide +kernel
theorem dX6_wheel_1 : decode cX6_wheel 1 = .ok (.iload_n 1, 1) := by decide +kernel
theorem dX6_wheel_2 : decode cX6_wheel 2 = .ok (.invokevirtual 87, 3) := by decide +kernel
theorem dX6_wheel_5 : decode cX6_wheel 5 = .ok (.ifCond .eq 27, 3) := by decide +kernel
theorem dX6_wheel_8 : decode cX6_wheel 8 = .ok (.iload_n 2, 1) := by decide +kernel
theorem dX6_wheel_9 : decode cX6_wheel 9 = .ok (.iconst 0, 1) := by decide +kernel
theorem dX6_wheel_10 : decode cX6_wheel 10 = .ok (.bipush 7, 2) := by decide +kernel
theorem dX6_wheel_12 : decode cX6_wheel 12 = .ok (.invokestatic 67, 3) := by decide +kernel
theorem dX6_wheel_15 : decode cX6_wheel 15 = .ok (.ifCond .eq 17, 3) := by decide +kernel
theorem dX6_wheel_18 : decode cX6_wheel 18 = .ok (.aload_n 0, 1) := by decide +kernel
theorem dX6_wheel_19 : decode cX6_wheel 19 = .ok (.getfield 7, 3) := by decide +kernel
theorem dX6_wheel_22 : decode cX6_wheel 22 = .ok (.iload_n 1, 1) := by decide +kernel
theorem dX6_wheel_23 : decode cX6_wheel 23 = .ok (.iload_n 2, 1) := by decide +kernel
theorem dX6_wheel_24 : decode cX6_wheel 24 = .ok (.invokestatic 71, 3) := by decide +kernel
theorem dX6_wheel_27 : decode cX6_wheel 27 = .ok (.laload, 1) := by decide +kernel
theorem dX6_wheel_28 : decode cX6_wheel 28 = .ok (.l2i, 1) := by decide +kernel
theorem dX6_wheel_29 : decode cX6_wheel 29 = .ok (.goto 5, 3) := by decide +kernel
theorem dX6_wheel_32 : decode cX6_wheel 32 = .ok (.ldc 80, 2) := by decide +kernel
theorem dX6_wheel_34 : decode cX6_wheel 34 = .ok (.ireturn, 1) := by decide +kernel
theorem dX6_wheels_0 : decode cX6_wheels 0 = .ok (.aload_n 0, 1) := by decide +kernel
theorem dX6_wheels_1 : decode cX6_wheels 1 = .ok (.getfield 7, 3) := by decide +kernel
theorem dX6_wheels_4 : decode cX6_wheels 4 = .ok (.bipush 6, 2) := by decide +kernel
theorem dX6_wheels_6 : decode cX6_wheels 6 = .ok (.laload, 1) := by decide +kernel
theorem dX6_wheels_7 : decode cX6_wheels 7 = .ok (.l2i, 1) := by decide +kernel
theorem dX6_wheels_8 : decode cX6_wheels 8 = .ok (.ireturn, 1) := by decide +kernel
set_option maxRecDepth 20000 in
theorem ggX6_isAxis_X6_in : GoodIn wsX6_isAxis wsX6_in := goodIn_r _ [4] (by decide +kernel) (by decide +kernel)
set_option maxRecDepth 20000 in
theorem gX6_isAxis_X6_in : GoodIn wsX6_isAxis (va_wsS RX6 67 yX6_in wsX6_in) := goodIn_app (goodIn_of _ (by decide +kernel)) ggX6_isAxis_X6_in
theorem dX6_isAxis_0 : decode cX6_isAxis 0 = .ok (.iload_n 0, 1) := by decide +kernel
theorem dX6_isAxis_1 : decode cX6_isAxis 1 = .ok (.iconst 0, 1) := by decide +kernel
theorem dX6_isAxis_2 : decode cX6_isAxis 2 = .ok (.iconst 2, 1) := by decide +kernel
theorem dX6_isAxis_3 : decode cX6_isAxis 3 = .ok (.invokestatic 67, 3) := by decide +kernel
theorem dX6_isAxis_6 : decode cX6_isAxis 6 = .ok (.ireturn, 1) := by decide +kernel
set_option maxRecDepth 20000 in
theorem ggX6_setAxis_X6_in : GoodIn wsX6_setAxis wsX6_in := goodIn_r _ [7] (by decide +kernel) (by decide +kernel)
set_option maxRecDepth 20000 in
theorem gX6_setAxis_X6_in : GoodIn wsX6_setAxis (va_wsS RX6 67 yX6_in wsX6_in) := goodIn_app (goodIn_of _ (by decide +kernel)) ggX6_setAxis_X6_in
set_option maxRecDepth 20000 in
theorem ggX6_setAxis_X6_isAxis : GoodIn wsX6_setAxis wsX6_isAxis := goodIn_r _ [10, 4, 5, 6, 7] (by decide +kernel) (by decide +kernel)
set_option maxRecDepth 20000 in
theorem gX6_setAxis_X6_isAxis : GoodIn wsX6_setAxis (va_wsS RX6 94 yX6_isAxis wsX6_isAxis) := goodIn_app (goodIn_of _ (by decide +kernel)) ggX6_setAxis_X6_isAxis
set_option maxRecDepth 20000 in
theorem ggX6_setAxis_X6_axisAt : GoodIn wsX6_setAxis wsX6_axisAt := goodIn_r _ [13] (by decide +kernel) (by decide +kernel)
set_option maxRecDepth 20000 in
theorem gX6_setAxis_X6_axisAt : GoodIn wsX6_setAxis (va_wsS RX6 45 yX6_axisAt wsX6_axisAt) := goodIn_app (goodIn_of _ (by decide +kernel)) ggX6_setAxis_X6_axisAt
set_option maxRecDepth 20000 in
theorem ggX6_setAxis_X6_sets : GoodIn wsX6_setAxis wsX6_sets := goodIn_r _ [17, 18, 19, 20, 21, 6, 22, 23, 24, 25, 26, 27, 28, 29, 30, 31, 32, 33, 34, 35] (by decide +kernel) (by decide +kernel)
set_option maxRecDepth 20000 in
theorem gX6_setAxis_X6_sets : GoodIn wsX6_setAxis (wsV RX6 90 RX6 yX6_sets wsX6_sets) := goodIn_app (goodIn_of _ (by decide +kernel)) ggX6_setAxis_X6_sets
theorem dX6_setAxis_0 : decode cX6_setAxis 0 = .ok (.iload_n 2, 1) := by decide +kernel
theorem dX6_setAxis_1 : decode cX6_setAxis 1 = .ok (.ifCond .ne 14, 3) := by decide +kernel
theorem dX6_setAxis_4 : decode cX6_setAxis 4 = .ok (.iload_n 3, 1) := by decide +kernel
theorem dX6_setAxis_5 : decode cX6_setAxis 5 = .ok (.iconst 1, 1) := by decide +kernel
theorem dX6_setAxis_6 : decode cX6_setAxis 6 = .ok (.sipush 1000, 3) := by decide +kernel
theorem dX6_setAxis_9 : decode cX6_setAxis 9 = .ok (.invokestatic 67, 3) := by decide +kernel
theorem dX6_setAxis_12 : decode cX6_setAxis 12 = .ok (.goto 58, 3) := by decide +kernel
theorem dX6_setAxis_15 : decode cX6_setAxis 15 = .ok (.iload_n 2, 1) := by decide +kernel
theorem dX6_setAxis_16 : decode cX6_setAxis 16 = .ok (.iconst 1, 1) := by decide +kernel
theorem dX6_setAxis_17 : decode cX6_setAxis 17 = .ok (.if_icmp .ne 14, 3) := by decide +kernel
theorem dX6_setAxis_20 : decode cX6_setAxis 20 = .ok (.iload_n 3, 1) := by decide +kernel
theorem dX6_setAxis_21 : decode cX6_setAxis 21 = .ok (.ldc 93, 2) := by decide +kernel
theorem dX6_setAxis_23 : decode cX6_setAxis 23 = .ok (.ldc 78, 2) := by decide +kernel
theorem dX6_setAxis_25 : decode cX6_setAxis 25 = .ok (.invokestatic 67, 3) := by decide +kernel
theorem dX6_setAxis_28 : decode cX6_setAxis 28 = .ok (.goto 42, 3) := by decide +kernel
theorem dX6_setAxis_31 : decode cX6_setAxis 31 = .ok (.iload_n 2, 1) := by decide +kernel
theorem dX6_setAxis_32 : decode cX6_setAxis 32 = .ok (.iconst 2, 1) := by decide +kernel
theorem dX6_setAxis_33 : decode cX6_setAxis 33 = .ok (.if_icmp .ne 14, 3) := by decide +kernel
theorem dX6_setAxis_36 : decode cX6_setAxis 36 = .ok (.iload_n 3, 1) := by decide +kernel
theorem dX6_setAxis_37 : decode cX6_setAxis 37 = .ok (.bipush (-100), 2) := by decide +kernel
theorem dX6_setAxis_39 : decode cX6_setAxis 39 = .ok (.bipush 100, 2) := by decide +kernel
theorem dX6_setAxis_41 : decode cX6_setAxis 41 = .ok (.invokestatic 67, 3) := by decide +kernel
theorem dX6_setAxis_44 : decode cX6_setAxis 44 = .ok (.goto 26, 3) := by decide +kernel
theorem dX6_setAxis_47 : decode cX6_setAxis 47 = .ok (.iload_n 2, 1) := by decide +kernel
theorem dX6_setAxis_48 : decode cX6_setAxis 48 = .ok (.iconst 3, 1) := by decide +kernel
theorem dX6_setAxis_49 : decode cX6_setAxis 49 = .ok (.if_icmp .ne 20, 3) := by decide +kernel
theorem dX6_setAxis_52 : decode cX6_setAxis 52 = .ok (.iload_n 3, 1) := by decide +kernel
theorem dX6_setAxis_53 : decode cX6_setAxis 53 = .ok (.sipush (-1000), 3) := by decide +kernel
theorem dX6_setAxis_56 : decode cX6_setAxis 56 = .ok (.sipush 1000, 3) := by decide +kernel
theorem dX6_setAxis_59 : decode cX6_setAxis 59 = .ok (.invokestatic 67, 3) := by decide +kernel
theorem dX6_setAxis_62 : decode cX6_setAxis 62 = .ok (.ifCond .eq 7, 3) := by decide +kernel
theorem dX6_setAxis_65 : decode cX6_setAxis 65 = .ok (.iconst 1, 1) := by decide +kernel
theorem dX6_setAxis_66 : decode cX6_setAxis 66 = .ok (.goto 4, 3) := by decide +kernel
theorem dX6_setAxis_69 : decode cX6_setAxis 69 = .ok (.iconst 0, 1) := by decide +kernel
theorem dX6_setAxis_70 : decode cX6_setAxis 70 = .ok (.istore 4, 2) := by decide +kernel
theorem dX6_setAxis_72 : decode cX6_setAxis 72 = .ok (.iload_n 1, 1) := by decide +kernel
theorem dX6_setAxis_73 : decode cX6_setAxis 73 = .ok (.invokestatic 94, 3) := by decide +kernel
theorem dX6_setAxis_76 : decode cX6_setAxis 76 = .ok (.ifCond .eq 23, 3) := by decide +kernel
theorem dX6_setAxis_79 : decode cX6_setAxis 79 = .ok (.iload 4, 2) := by decide +kernel
theorem dX6_setAxis_81 : decode cX6_setAxis 81 = .ok (.ifCond .eq 18, 3) := by decide +kernel
theorem dX6_setAxis_84 : decode cX6_setAxis 84 = .ok (.aload_n 0, 1) := by decide +kernel
theorem dX6_setAxis_85 : decode cX6_setAxis 85 = .ok (.iload_n 1, 1) := by decide +kernel
theorem dX6_setAxis_86 : decode cX6_setAxis 86 = .ok (.iconst 2, 1) := by decide +kernel
theorem dX6_setAxis_87 : decode cX6_setAxis 87 = .ok (.iload_n 2, 1) := by decide +kernel
theorem dX6_setAxis_88 : decode cX6_setAxis 88 = .ok (.iadd, 1) := by decide +kernel
theorem dX6_setAxis_89 : decode cX6_setAxis 89 = .ok (.invokestatic 45, 3) := by decide +kernel
theorem dX6_setAxis_92 : decode cX6_setAxis 92 = .ok (.iload_n 3, 1) := by decide +kernel
theorem dX6_setAxis_93 : decode cX6_setAxis 93 = .ok (.invokevirtual 90, 3) := by decide +kernel
theorem dX6_setAxis_96 : decode cX6_setAxis 96 = .ok (.goto 5, 3) := by decide +kernel
theorem dX6_setAxis_99 : decode cX6_setAxis 99 = .ok (.ldc 80, 2) := by decide +kernel
theorem dX6_setAxis_101 : decode cX6_setAxis 101 = .ok (.ireturn, 1) := by decide +kernel
set_option maxRecDepth 20000 in
theorem ggX6_set_X6_in : GoodIn wsX6_set wsX6_in := goodIn_r _ [6] (by decide +kernel) (by decide +kernel)
set_option maxRecDepth 20000 in
theorem gX6_set_X6_in : GoodIn wsX6_set (va_wsS RX6 67 yX6_in wsX6_in) := goodIn_app (goodIn_of _ (by decide +kernel)) ggX6_set_X6_in
set_option maxRecDepth 20000 in
theorem ggX6_set_X6_sets : GoodIn wsX6_set wsX6_sets := goodIn_r _ [10, 11, 12, 13, 14, 5, 15, 16, 17, 18, 19, 20, 21, 22, 23, 24, 25, 26, 27, 28] (by decide +kernel) (by decide +kernel)
set_option maxRecDepth 20000 in
theorem gX6_set_X6_sets : GoodIn wsX6_set (wsV RX6 90 RX6 yX6_sets wsX6_sets) := goodIn_app (goodIn_of _ (by decide +kernel)) ggX6_set_X6_sets
theorem dX6_set_0 : decode cX6_set 0 = .ok (.iload_n 1, 1) := by decide +kernel
theorem dX6_set_1 : decode cX6_set 1 = .ok (.ifCond .eq 8, 3) := by decide +kernel
theorem dX6_set_4 : decode cX6_set 4 = .ok (.iload_n 1, 1) := by decide +kernel
theorem dX6_set_5 : decode cX6_set 5 = .ok (.iconst 1, 1) := by decide +kernel
theorem dX6_set_6 : decode cX6_set 6 = .ok (.if_icmp .ne 9, 3) := by decide +kernel
theorem dX6_set_9 : decode cX6_set 9 = .ok (.sipush 1000, 3) := by decide +kernel
theorem dX6_set_12 : decode cX6_set 12 = .ok (.goto 16, 3) := by decide +kernel
theorem dX6_set_15 : decode cX6_set 15 = .ok (.iload_n 1, 1) := by decide +kernel
theorem dX6_set_16 : decode cX6_set 16 = .ok (.iconst 3, 1) := by decide +kernel
theorem dX6_set_17 : decode cX6_set 17 = .ok (.if_icmp .ne 8, 3) := by decide +kernel
theorem dX6_set_20 : decode cX6_set 20 = .ok (.ldc 79, 2) := by decide +kernel
theorem dX6_set_22 : decode cX6_set 22 = .ok (.goto 6, 3) := by decide +kernel
theorem dX6_set_25 : decode cX6_set 25 = .ok (.sipush 10000, 3) := by decide +kernel
theorem dX6_set_28 : decode cX6_set 28 = .ok (.istore_n 3, 1) := by decide +kernel
theorem dX6_set_29 : decode cX6_set 29 = .ok (.iload_n 1, 1) := by decide +kernel
theorem dX6_set_30 : decode cX6_set 30 = .ok (.iconst 2, 1) := by decide +kernel
theorem dX6_set_31 : decode cX6_set 31 = .ok (.if_icmp .eq 8, 3) := by decide +kernel
theorem dX6_set_34 : decode cX6_set 34 = .ok (.iload_n 1, 1) := by decide +kernel
theorem dX6_set_35 : decode cX6_set 35 = .ok (.iconst 3, 1) := by decide +kernel
theorem dX6_set_36 : decode cX6_set 36 = .ok (.if_icmp .ne 7, 3) := by decide +kernel
theorem dX6_set_39 : decode cX6_set 39 = .ok (.iconst 1, 1) := by decide +kernel
theorem dX6_set_40 : decode cX6_set 40 = .ok (.goto 4, 3) := by decide +kernel
theorem dX6_set_43 : decode cX6_set 43 = .ok (.iconst 0, 1) := by decide +kernel
theorem dX6_set_44 : decode cX6_set 44 = .ok (.istore 4, 2) := by decide +kernel
theorem dX6_set_46 : decode cX6_set 46 = .ok (.iload_n 1, 1) := by decide +kernel
theorem dX6_set_47 : decode cX6_set 47 = .ok (.iconst 0, 1) := by decide +kernel
theorem dX6_set_48 : decode cX6_set 48 = .ok (.iconst 4, 1) := by decide +kernel
theorem dX6_set_49 : decode cX6_set 49 = .ok (.invokestatic 67, 3) := by decide +kernel
theorem dX6_set_52 : decode cX6_set 52 = .ok (.ifCond .eq 22, 3) := by decide +kernel
theorem dX6_set_55 : decode cX6_set 55 = .ok (.iload_n 2, 1) := by decide +kernel
theorem dX6_set_56 : decode cX6_set 56 = .ok (.iload 4, 2) := by decide +kernel
theorem dX6_set_58 : decode cX6_set 58 = .ok (.iload_n 3, 1) := by decide +kernel
theorem dX6_set_59 : decode cX6_set 59 = .ok (.invokestatic 67, 3) := by decide +kernel
theorem dX6_set_62 : decode cX6_set 62 = .ok (.ifCond .eq 12, 3) := by decide +kernel
theorem dX6_set_65 : decode cX6_set 65 = .ok (.aload_n 0, 1) := by decide +kernel
theorem dX6_set_66 : decode cX6_set 66 = .ok (.iload_n 1, 1) := by decide +kernel
theorem dX6_set_67 : decode cX6_set 67 = .ok (.iload_n 2, 1) := by decide +kernel
theorem dX6_set_68 : decode cX6_set 68 = .ok (.invokevirtual 90, 3) := by decide +kernel
theorem dX6_set_71 : decode cX6_set 71 = .ok (.goto 5, 3) := by decide +kernel
theorem dX6_set_74 : decode cX6_set 74 = .ok (.ldc 80, 2) := by decide +kernel
theorem dX6_set_76 : decode cX6_set 76 = .ok (.ireturn, 1) := by decide +kernel
set_option maxRecDepth 20000 in
theorem ggX6_setting_X6_in : GoodIn wsX6_setting wsX6_in := goodIn_r _ [6] (by decide +kernel) (by decide +kernel)
set_option maxRecDepth 20000 in
theorem gX6_setting_X6_in : GoodIn wsX6_setting (va_wsS RX6 67 yX6_in wsX6_in) := goodIn_app (goodIn_of _ (by decide +kernel)) ggX6_setting_X6_in
theorem dX6_setting_0 : decode cX6_setting 0 = .ok (.iload_n 1, 1) := by decide +kernel
theorem dX6_setting_1 : decode cX6_setting 1 = .ok (.iconst 0, 1) := by decide +kernel
theorem dX6_setting_2 : decode cX6_setting 2 = .ok (.iconst 4, 1) := by decide +kernel
theorem dX6_setting_3 : decode cX6_setting 3 = .ok (.invokestatic 67, 3) := by decide +kernel
theorem dX6_setting_6 : decode cX6_setting 6 = .ok (.ifCond .eq 13, 3) := by decide +kernel
theorem dX6_setting_9 : decode cX6_setting 9 = .ok (.aload_n 0, 1) := by decide +kernel
theorem dX6_setting_10 : decode cX6_setting 10 = .ok (.getfield 7, 3) := by decide +kernel
theorem dX6_setting_13 : decode cX6_setting 13 = .ok (.iload_n 1, 1) := by decide +kernel
theorem dX6_setting_14 : decode cX6_setting 14 = .ok (.laload, 1) := by decide +kernel
theorem dX6_setting_15 : decode cX6_setting 15 = .ok (.l2i, 1) := by decide +kernel
theorem dX6_setting_16 : decode cX6_setting 16 = .ok (.goto 5, 3) := by decide +kernel
theorem dX6_setting_19 : decode cX6_setting 19 = .ok (.ldc 80, 2) := by decide +kernel
theorem dX6_setting_21 : decode cX6_setting 21 = .ok (.ireturn, 1) := by decide +kernel
set_option maxRecDepth 20000 in
theorem ggX6_rate_X6_axisAt : GoodIn wsX6_rate wsX6_axisAt := goodIn_r _ [5] (by decide +kernel) (by decide +kernel)
set_option maxRecDepth 20000 in
theorem gX6_rate_X6_axisAt : GoodIn wsX6_rate (va_wsS RX6 45 yX6_axisAt wsX6_axisAt) := goodIn_app (goodIn_of _ (by decide +kernel)) ggX6_rate_X6_axisAt
set_option maxRecDepth 20000 in
theorem ggX6_rate_X6_div : GoodIn wsX6_rate wsX6_div := goodIn_r _ [8] (by decide +kernel) (by decide +kernel)
set_option maxRecDepth 20000 in
theorem gX6_rate_X6_div : GoodIn wsX6_rate (va_wsS RX6 63 yX6_div wsX6_div) := goodIn_app (goodIn_of _ (by decide +kernel)) ggX6_rate_X6_div
theorem dX6_rate_0 : decode cX6_rate 0 = .ok (.aload_n 0, 1) := by decide +kernel
theorem dX6_rate_1 : decode cX6_rate 1 = .ok (.getfield 7, 3) := by decide +kernel
theorem dX6_rate_4 : decode cX6_rate 4 = .ok (.iload_n 1, 1) := by decide +kernel
theorem dX6_rate_5 : decode cX6_rate 5 = .ok (.iconst 1, 1) := by decide +kernel
theorem dX6_rate_6 : decode cX6_rate 6 = .ok (.invokestatic 45, 3) := by decide +kernel
theorem dX6_rate_9 : decode cX6_rate 9 = .ok (.laload, 1) := by decide +kernel
theorem dX6_rate_10 : decode cX6_rate 10 = .ok (.aload_n 0, 1) := by decide +kernel
theorem dX6_rate_11 : decode cX6_rate 11 = .ok (.getfield 7, 3) := by decide +kernel
theorem dX6_rate_14 : decode cX6_rate 14 = .ok (.iload_n 1, 1) := by decide +kernel
theorem dX6_rate_15 : decode cX6_rate 15 = .ok (.iconst 2, 1) := by decide +kernel
theorem dX6_rate_16 : decode cX6_rate 16 = .ok (.invokestatic 45, 3) := by decide +kernel
theorem dX6_rate_19 : decode cX6_rate 19 = .ok (.laload, 1) := by decide +kernel
theorem dX6_rate_20 : decode cX6_rate 20 = .ok (.invokestatic 63, 3) := by decide +kernel
theorem dX6_rate_23 : decode cX6_rate 23 = .ok (.lreturn, 1) := by decide +kernel
set_option maxRecDepth 20000 in
theorem ggX6_pushes_X6_axisAt : GoodIn wsX6_pushes wsX6_axisAt := goodIn_r _ [5] (by decide +kernel) (by decide +kernel)
set_option maxRecDepth 20000 in
theorem gX6_pushes_X6_axisAt : GoodIn wsX6_pushes (va_wsS RX6 45 yX6_axisAt wsX6_axisAt) := goodIn_app (goodIn_of _ (by decide +kernel)) ggX6_pushes_X6_axisAt
theorem dX6_pushes_0 : decode cX6_pushes 0 = .ok (.aload_n 0, 1) := by decide +kernel
theorem dX6_pushes_1 : decode cX6_pushes 1 = .ok (.getfield 7, 3) := by decide +kernel
theorem dX6_pushes_4 : decode cX6_pushes 4 = .ok (.iload_n 1, 1) := by decide +kernel
theorem dX6_pushes_5 : decode cX6_pushes 5 = .ok (.iconst 1, 1) := by decide +kernel
theorem dX6_pushes_6 : decode cX6_pushes 6 = .ok (.invokestatic 45, 3) := by decide +kernel
theorem dX6_pushes_9 : decode cX6_pushes 9 = .ok (.dup2, 1) := by decide +kernel
theorem dX6_pushes_10 : decode cX6_pushes 10 = .ok (.laload, 1) := by decide +kernel
theorem dX6_pushes_11 : decode cX6_pushes 11 = .ok (.lload_n 2, 1) := by decide +kernel
theorem dX6_pushes_12 : decode cX6_pushes 12 = .ok (.ladd, 1) := by decide +kernel
theorem dX6_pushes_13 : decode cX6_pushes 13 = .ok (.lastore, 1) := by decide +kernel
theorem dX6_pushes_14 : decode cX6_pushes 14 = .ok (.aload_n 0, 1) := by decide +kernel
theorem dX6_pushes_15 : decode cX6_pushes 15 = .ok (.getfield 7, 3) := by decide +kernel
theorem dX6_pushes_18 : decode cX6_pushes 18 = .ok (.iload_n 1, 1) := by decide +kernel
theorem dX6_pushes_19 : decode cX6_pushes 19 = .ok (.bipush 6, 2) := by decide +kernel
theorem dX6_pushes_21 : decode cX6_pushes 21 = .ok (.invokestatic 45, 3) := by decide +kernel
theorem dX6_pushes_24 : decode cX6_pushes 24 = .ok (.dup2, 1) := by decide +kernel
theorem dX6_pushes_25 : decode cX6_pushes 25 = .ok (.laload, 1) := by decide +kernel
theorem dX6_pushes_26 : decode cX6_pushes 26 = .ok (.lload_n 2, 1) := by decide +kernel
theorem dX6_pushes_27 : decode cX6_pushes 27 = .ok (.ladd, 1) := by decide +kernel
theorem dX6_pushes_28 : decode cX6_pushes 28 = .ok (.lastore, 1) := by decide +kernel
theorem dX6_pushes_29 : decode cX6_pushes 29 = .ok (.return_, 1) := by decide +kernel
set_option maxRecDepth 20000 in
theorem ggX6_strike_X6_isAxis : GoodIn wsX6_strike wsX6_isAxis := goodIn_r _ [7, 8, 9, 6, 10] (by decide +kernel) (by decide +kernel)
set_option maxRecDepth 20000 in
theorem gX6_strike_X6_isAxis : GoodIn wsX6_strike (va_wsS RX6 94 yX6_isAxis wsX6_isAxis) := goodIn_app (goodIn_of _ (by decide +kernel)) ggX6_strike_X6_isAxis
set_option maxRecDepth 20000 in
theorem ggX6_strike_X6_in : GoodIn wsX6_strike wsX6_in := goodIn_r _ [10] (by decide +kernel) (by decide +kernel)
set_option maxRecDepth 20000 in
theorem gX6_strike_X6_in : GoodIn wsX6_strike (va_wsS RX6 67 yX6_in wsX6_in) := goodIn_app (goodIn_of _ (by decide +kernel)) ggX6_strike_X6_in
set_option maxRecDepth 20000 in
theorem ggX6_strike_X6_act : GoodIn wsX6_strike wsX6_act := goodIn_r _ [14, 15, 16, 17, 32, 33, 34, 35, 36, 37, 38, 39, 40, 41, 42] (by decide +kernel) (by decide +kernel)
set_option maxRecDepth 20000 in
theorem gX6_strike_X6_act : GoodIn wsX6_strike (wsV RX6 84 RX6 yX6_act wsX6_act) := goodIn_app (goodIn_of _ (by decide +kernel)) ggX6_strike_X6_act
set_option maxRecDepth 20000 in
theorem ggX6_strike_X6_pushes : GoodIn wsX6_strike wsX6_pushes := goodIn_r _ [21, 17, 22, 23, 6, 24, 32, 33, 34, 35, 36, 37, 38, 39, 40, 41, 42] (by decide +kernel) (by decide +kernel)
set_option maxRecDepth 20000 in
theorem gX6_strike_X6_pushes : GoodIn wsX6_strike (wsV RX6 100 RX6 yX6_pushes wsX6_pushes) := goodIn_app (goodIn_of _ (by decide +kernel)) ggX6_strike_X6_pushes
set_option maxRecDepth 20000 in
theorem ggX6_strike_X6_rate : GoodIn wsX6_strike wsX6_rate := goodIn_r _ [28, 17, 22, 23, 6, 24, 29, 30, 31, 32, 33, 34, 35, 36, 37, 38, 39, 40, 41, 42] (by decide +kernel) (by decide +kernel)
set_option maxRecDepth 20000 in
theorem gX6_strike_X6_rate : GoodIn wsX6_strike (wsV RX6 104 RX6 yX6_rate wsX6_rate) := goodIn_app (goodIn_of _ (by decide +kernel)) ggX6_strike_X6_rate
theorem dX6_strike_0 : decode cX6_strike 0 = .ok (.iload_n 1, 1) := by decide +kernel
theorem dX6_strike_1 : decode cX6_strike 1 = .ok (.invokestatic 94, 3) := by decide +kernel
theorem dX6_strike_4 : decode cX6_strike 4 = .ok (.ifCond .eq 14, 3) := by decide +kernel
theorem dX6_strike_7 : decode cX6_strike 7 = .ok (.iload_n 2, 1) := by decide +kernel
theorem dX6_strike_8 : decode cX6_strike 8 = .ok (.ldc 97, 2) := by decide +kernel
theorem dX6_strike_10 : decode cX6_strike 10 = .ok (.ldc 79, 2) := by decide +kernel
theorem dX6_strike_12 : decode cX6_strike 12 = .ok (.invokestatic 67, 3) := by decide +kernel
theorem dX6_strike_15 : decode cX6_strike 15 = .ok (.ifCond .ne 7, 3) := by decide +kernel
theorem dX6_strike_18 : decode cX6_strike 18 = .ok (.ldc2_w 98, 3) := by decide +kernel
theorem dX6_strike_21 : decode cX6_strike 21 = .ok (.lreturn, 1) := by decide +kernel
theorem dX6_strike_22 : decode cX6_strike 22 = .ok (.aload_n 0, 1) := by decide +kernel
theorem dX6_strike_23 : decode cX6_strike 23 = .ok (.invokevirtual 84, 3) := by decide +kernel
theorem dX6_strike_26 : decode cX6_strike 26 = .ok (.aload_n 0, 1) := by decide +kernel
theorem dX6_strike_27 : decode cX6_strike 27 = .ok (.iload_n 1, 1) := by decide +kernel
theorem dX6_strike_28 : decode cX6_strike 28 = .ok (.iload_n 2, 1) := by decide +kernel
theorem dX6_strike_29 : decode cX6_strike 29 = .ok (.i2l, 1) := by decide +kernel
theorem dX6_strike_30 : decode cX6_strike 30 = .ok (.invokevirtual 100, 3) := by decide +kernel
theorem dX6_strike_33 : decode cX6_strike 33 = .ok (.aload_n 0, 1) := by decide +kernel
theorem dX6_strike_34 : decode cX6_strike 34 = .ok (.iload_n 1, 1) := by decide +kernel
theorem dX6_strike_35 : decode cX6_strike 35 = .ok (.invokevirtual 104, 3) := by decide +kernel
theorem dX6_strike_38 : decode cX6_strike 38 = .ok (.lreturn, 1) := by decide +kernel
theorem dX6_other_0 : decode cX6_other 0 = .ok (.iload_n 0, 1) := by decide +kernel
theorem dX6_other_1 : decode cX6_other 1 = .ok (.iload_n 1, 1) := by decide +kernel
theorem dX6_other_2 : decode cX6_other 2 = .ok (.iadd, 1) := by decide +kernel
theorem dX6_other_3 : decode cX6_other 3 = .ok (.iconst 3, 1) := by decide +kernel
theorem dX6_other_4 : decode cX6_other 4 = .ok (.irem, 1) := by decide +kernel
theorem dX6_other_5 : decode cX6_other 5 = .ok (.ireturn, 1) := by decide +kernel
set_option maxRecDepth 20000 in
theorem ggX6_spans_X6_works : GoodIn wsX6_spans wsX6_works := goodIn_r _ [9, 2, 10, 11, 8, 12, 16, 17, 18, 19, 20, 21, 22, 23, 24, 25, 26] (by decide +kernel) (by decide +kernel)
set_option maxRecDepth 20000 in
theorem gX6_spans_X6_works : GoodIn wsX6_spans (wsV RX6 108 RX6 yX6_works wsX6_works) := goodIn_app (goodIn_of _ (by decide +kernel)) ggX6_spans_X6_works
set_option maxRecDepth 20000 in
theorem ggX6_spans_X6_wheelAt : GoodIn wsX6_spans wsX6_wheelAt := goodIn_r _ [12] (by decide +kernel) (by decide +kernel)
set_option maxRecDepth 20000 in
theorem gX6_spans_X6_wheelAt : GoodIn wsX6_spans (va_wsS RX6 71 yX6_wheelAt wsX6_wheelAt) := goodIn_app (goodIn_of _ (by decide +kernel)) ggX6_spans_X6_wheelAt
set_option maxRecDepth 20000 in
theorem ggX6_spans_X6_other : GoodIn wsX6_spans wsX6_other := goodIn_r _ [15] (by decide +kernel) (by decide +kernel)
set_option maxRecDepth 20000 in
theorem gX6_spans_X6_other : GoodIn wsX6_spans (va_wsS RX6 111 yX6_other wsX6_other) := goodIn_app (goodIn_of _ (by decide +kernel)) ggX6_spans_X6_other
theorem dX6_spans_0 : decode cX6_spans 0 = .ok (.iconst 0, 1) := by decide +kernel
theorem dX6_spans_1 : decode cX6_spans 1 = .ok (.istore_n 2, 1) := by decide +kernel
theorem dX6_spans_2 : decode cX6_spans 2 = .ok (.iload_n 2, 1) := by decide +kernel
theorem dX6_spans_3 : decode cX6_spans 3 = .ok (.bipush 9, 2) := by decide +kernel
theorem dX6_spans_5 : decode cX6_spans 5 = .ok (.if_icmp .ge 16, 3) := by decide +kernel
theorem dX6_spans_8 : decode cX6_spans 8 = .ok (.aload_n 0, 1) := by decide +kernel
theorem dX6_spans_9 : decode cX6_spans 9 = .ok (.getfield 19, 3) := by decide +kernel
theorem dX6_spans_12 : decode cX6_spans 12 = .ok (.iload_n 2, 1) := by decide +kernel
theorem dX6_spans_13 : decode cX6_spans 13 = .ok (.lconst 0, 1) := by decide +kernel
theorem dX6_spans_14 : decode cX6_spans 14 = .ok (.lastore, 1) := by decide +kernel
theorem dX6_spans_15 : decode cX6_spans 15 = .ok (.iinc 2 1, 3) := by decide +kernel
theorem dX6_spans_18 : decode cX6_spans 18 = .ok (.goto (-16), 3) := by decide +kernel
theorem dX6_spans_21 : decode cX6_spans 21 = .ok (.iconst 0, 1) := by decide +kernel
theorem dX6_spans_22 : decode cX6_spans 22 = .ok (.istore_n 2, 1) := by decide +kernel
theorem dX6_spans_23 : decode cX6_spans 23 = .ok (.iload_n 2, 1) := by decide +kernel
theorem dX6_spans_24 : decode cX6_spans 24 = .ok (.i2l, 1) := by decide +kernel
theorem dX6_spans_25 : decode cX6_spans 25 = .ok (.aload_n 0, 1) := by decide +kernel
theorem dX6_spans_26 : decode cX6_spans 26 = .ok (.getfield 7, 3) := by decide +kernel
theorem dX6_spans_29 : decode cX6_spans 29 = .ok (.bipush 6, 2) := by decide +kernel
theorem dX6_spans_31 : decode cX6_spans 31 = .ok (.laload, 1) := by decide +kernel
theorem dX6_spans_32 : decode cX6_spans 32 = .ok (.lcmp, 1) := by decide +kernel
theorem dX6_spans_33 : decode cX6_spans 33 = .ok (.ifCond .ge 70, 3) := by decide +kernel
theorem dX6_spans_36 : decode cX6_spans 36 = .ok (.iconst 0, 1) := by decide +kernel
theorem dX6_spans_37 : decode cX6_spans 37 = .ok (.istore_n 3, 1) := by decide +kernel
theorem dX6_spans_38 : decode cX6_spans 38 = .ok (.iload_n 3, 1) := by decide +kernel
theorem dX6_spans_39 : decode cX6_spans 39 = .ok (.bipush 9, 2) := by decide +kernel
theorem dX6_spans_41 : decode cX6_spans 41 = .ok (.if_icmp .ge 56, 3) := by decide +kernel
theorem dX6_spans_44 : decode cX6_spans 44 = .ok (.aload_n 0, 1) := by decide +kernel
theorem dX6_spans_45 : decode cX6_spans 45 = .ok (.iload_n 2, 1) := by decide +kernel
theorem dX6_spans_46 : decode cX6_spans 46 = .ok (.invokevirtual 108, 3) := by decide +kernel
theorem dX6_spans_49 : decode cX6_spans 49 = .ok (.ifCond .eq 48, 3) := by decide +kernel
theorem dX6_spans_52 : decode cX6_spans 52 = .ok (.iload_n 2, 1) := by decide +kernel
theorem dX6_spans_53 : decode cX6_spans 53 = .ok (.iload_n 1, 1) := by decide +kernel
theorem dX6_spans_54 : decode cX6_spans 54 = .ok (.if_icmp .eq 43, 3) := by decide +kernel
theorem dX6_spans_57 : decode cX6_spans 57 = .ok (.aload_n 0, 1) := by decide +kernel
theorem dX6_spans_58 : decode cX6_spans 58 = .ok (.getfield 19, 3) := by decide +kernel
theorem dX6_spans_61 : decode cX6_spans 61 = .ok (.iload_n 3, 1) := by decide +kernel
theorem dX6_spans_62 : decode cX6_spans 62 = .ok (.dup2, 1) := by decide +kernel
theorem dX6_spans_63 : decode cX6_spans 63 = .ok (.laload, 1) := by decide +kernel
theorem dX6_spans_64 : decode cX6_spans 64 = .ok (.aload_n 0, 1) := by decide +kernel
theorem dX6_spans_65 : decode cX6_spans 65 = .ok (.getfield 7, 3) := by decide +kernel
theorem dX6_spans_68 : decode cX6_spans 68 = .ok (.iload_n 2, 1) := by decide +kernel
theorem dX6_spans_69 : decode cX6_spans 69 = .ok (.iload_n 3, 1) := by decide +kernel
theorem dX6_spans_70 : decode cX6_spans 70 = .ok (.iconst 3, 1) := by decide +kernel
theorem dX6_spans_71 : decode cX6_spans 71 = .ok (.idiv, 1) := by decide +kernel
theorem dX6_spans_72 : decode cX6_spans 72 = .ok (.invokestatic 71, 3) := by decide +kernel
theorem dX6_spans_75 : decode cX6_spans 75 = .ok (.laload, 1) := by decide +kernel
theorem dX6_spans_76 : decode cX6_spans 76 = .ok (.aload_n 0, 1) := by decide +kernel
theorem dX6_spans_77 : decode cX6_spans 77 = .ok (.getfield 7, 3) := by decide +kernel
theorem dX6_spans_80 : decode cX6_spans 80 = .ok (.iload_n 2, 1) := by decide +kernel
theorem dX6_spans_81 : decode cX6_spans 81 = .ok (.iload_n 3, 1) := by decide +kernel
theorem dX6_spans_82 : decode cX6_spans 82 = .ok (.iconst 3, 1) := by decide +kernel
theorem dX6_spans_83 : decode cX6_spans 83 = .ok (.irem, 1) := by decide +kernel
theorem dX6_spans_84 : decode cX6_spans 84 = .ok (.invokestatic 71, 3) := by decide +kernel
theorem dX6_spans_87 : decode cX6_spans 87 = .ok (.laload, 1) := by decide +kernel
theorem dX6_spans_88 : decode cX6_spans 88 = .ok (.lmul, 1) := by decide +kernel
theorem dX6_spans_89 : decode cX6_spans 89 = .ok (.ladd, 1) := by decide +kernel
theorem dX6_spans_90 : decode cX6_spans 90 = .ok (.lastore, 1) := by decide +kernel
theorem dX6_spans_91 : decode cX6_spans 91 = .ok (.iinc 3 1, 3) := by decide +kernel
theorem dX6_spans_94 : decode cX6_spans 94 = .ok (.goto (-56), 3) := by decide +kernel
theorem dX6_spans_97 : decode cX6_spans 97 = .ok (.iinc 2 1, 3) := by decide +kernel
theorem dX6_spans_100 : decode cX6_spans 100 = .ok (.goto (-77), 3) := by decide +kernel
theorem dX6_spans_103 : decode cX6_spans 103 = .ok (.iconst 0, 1) := by decide +kernel
theorem dX6_spans_104 : decode cX6_spans 104 = .ok (.istore_n 2, 1) := by decide +kernel
theorem dX6_spans_105 : decode cX6_spans 105 = .ok (.iload_n 2, 1) := by decide +kernel
theorem dX6_spans_106 : decode cX6_spans 106 = .ok (.iconst 3, 1) := by decide +kernel
theorem dX6_spans_107 : decode cX6_spans 107 = .ok (.if_icmp .ge 105, 3) := by decide +kernel
theorem dX6_spans_110 : decode cX6_spans 110 = .ok (.iconst 0, 1) := by decide +kernel
theorem dX6_spans_111 : decode cX6_spans 111 = .ok (.istore_n 3, 1) := by decide +kernel
theorem dX6_spans_112 : decode cX6_spans 112 = .ok (.iload_n 3, 1) := by decide +kernel
theorem dX6_spans_113 : decode cX6_spans 113 = .ok (.iconst 3, 1) := by decide +kernel
theorem dX6_spans_114 : decode cX6_spans 114 = .ok (.if_icmp .ge 92, 3) := by decide +kernel
theorem dX6_spans_117 : decode cX6_spans 117 = .ok (.iconst 3, 1) := by decide +kernel
theorem dX6_spans_118 : decode cX6_spans 118 = .ok (.iload_n 2, 1) := by decide +kernel
theorem dX6_spans_119 : decode cX6_spans 119 = .ok (.iconst 1, 1) := by decide +kernel
theorem dX6_spans_120 : decode cX6_spans 120 = .ok (.invokestatic 111, 3) := by decide +kernel
theorem dX6_spans_123 : decode cX6_spans 123 = .ok (.imul, 1) := by decide +kernel
theorem dX6_spans_124 : decode cX6_spans 124 = .ok (.istore 4, 2) := by decide +kernel
theorem dX6_spans_126 : decode cX6_spans 126 = .ok (.iconst 3, 1) := by decide +kernel
theorem dX6_spans_127 : decode cX6_spans 127 = .ok (.iload_n 2, 1) := by decide +kernel
theorem dX6_spans_128 : decode cX6_spans 128 = .ok (.iconst 2, 1) := by decide +kernel
theorem dX6_spans_129 : decode cX6_spans 129 = .ok (.invokestatic 111, 3) := by decide +kernel
theorem dX6_spans_132 : decode cX6_spans 132 = .ok (.imul, 1) := by decide +kernel
theorem dX6_spans_133 : decode cX6_spans 133 = .ok (.istore 5, 2) := by decide +kernel
theorem dX6_spans_135 : decode cX6_spans 135 = .ok (.aload_n 0, 1) := by decide +kernel
theorem dX6_spans_136 : decode cX6_spans 136 = .ok (.getfield 22, 3) := by decide +kernel
theorem dX6_spans_139 : decode cX6_spans 139 = .ok (.iconst 3, 1) := by decide +kernel
theorem dX6_spans_140 : decode cX6_spans 140 = .ok (.iload_n 2, 1) := by decide +kernel
theorem dX6_spans_141 : decode cX6_spans 141 = .ok (.imul, 1) := by decide +kernel
theorem dX6_spans_142 : decode cX6_spans 142 = .ok (.iload_n 3, 1) := by decide +kernel
theorem dX6_spans_143 : decode cX6_spans 143 = .ok (.iadd, 1) := by decide +kernel
theorem dX6_spans_144 : decode cX6_spans 144 = .ok (.aload_n 0, 1) := by decide +kernel
theorem dX6_spans_145 : decode cX6_spans 145 = .ok (.getfield 19, 3) := by decide +kernel
theorem dX6_spans_148 : decode cX6_spans 148 = .ok (.iload 4, 2) := by decide +kernel
theorem dX6_spans_150 : decode cX6_spans 150 = .ok (.iload_n 3, 1) := by decide +kernel
theorem dX6_spans_151 : decode cX6_spans 151 = .ok (.iconst 1, 1) := by decide +kernel
theorem dX6_spans_152 : decode cX6_spans 152 = .ok (.invokestatic 111, 3) := by decide +kernel
theorem dX6_spans_155 : decode cX6_spans 155 = .ok (.iadd, 1) := by decide +kernel
theorem dX6_spans_156 : decode cX6_spans 156 = .ok (.laload, 1) := by decide +kernel
theorem dX6_spans_157 : decode cX6_spans 157 = .ok (.aload_n 0, 1) := by decide +kernel
theorem dX6_spans_158 : decode cX6_spans 158 = .ok (.getfield 19, 3) := by decide +kernel
theorem dX6_spans_161 : decode cX6_spans 161 = .ok (.iload 5, 2) := by decide +kernel
theorem dX6_spans_163 : decode cX6_spans 163 = .ok (.iload_n 3, 1) := by decide +kernel
theorem dX6_spans_164 : decode cX6_spans 164 = .ok (.iconst 2, 1) := by decide +kernel
theorem dX6_spans_165 : decode cX6_spans 165 = .ok (.invokestatic 111, 3) := by decide +kernel
theorem dX6_spans_168 : decode cX6_spans 168 = .ok (.iadd, 1) := by decide +kernel
theorem dX6_spans_169 : decode cX6_spans 169 = .ok (.laload, 1) := by decide +kernel
theorem dX6_spans_170 : decode cX6_spans 170 = .ok (.lmul, 1) := by decide +kernel
theorem dX6_spans_171 : decode cX6_spans 171 = .ok (.aload_n 0, 1) := by decide +kernel
theorem dX6_spans_172 : decode cX6_spans 172 = .ok (.getfield 19, 3) := by decide +kernel
theorem dX6_spans_175 : decode cX6_spans 175 = .ok (.iload 4, 2) := by decide +kernel
theorem dX6_spans_177 : decode cX6_spans 177 = .ok (.iload_n 3, 1) := by decide +kernel
theorem dX6_spans_178 : decode cX6_spans 178 = .ok (.iconst 2, 1) := by decide +kernel
theorem dX6_spans_179 : decode cX6_spans 179 = .ok (.invokestatic 111, 3) := by decide +kernel
theorem dX6_spans_182 : decode cX6_spans 182 = .ok (.iadd, 1) := by decide +kernel
theorem dX6_spans_183 : decode cX6_spans 183 = .ok (.laload, 1) := by decide +kernel
theorem dX6_spans_184 : decode cX6_spans 184 = .ok (.aload_n 0, 1) := by decide +kernel
theorem dX6_spans_185 : decode cX6_spans 185 = .ok (.getfield 19, 3) := by decide +kernel
theorem dX6_spans_188 : decode cX6_spans 188 = .ok (.iload 5, 2) := by decide +kernel
theorem dX6_spans_190 : decode cX6_spans 190 = .ok (.iload_n 3, 1) := by decide +kernel
theorem dX6_spans_191 : decode cX6_spans 191 = .ok (.iconst 1, 1) := by decide +kernel
theorem dX6_spans_192 : decode cX6_spans 192 = .ok (.invokestatic 111, 3) := by decide +kernel
theorem dX6_spans_195 : decode cX6_spans 195 = .ok (.iadd, 1) := by decide +kernel
theorem dX6_spans_196 : decode cX6_spans 196 = .ok (.laload, 1) := by decide +kernel
theorem dX6_spans_197 : decode cX6_spans 197 = .ok (.lmul, 1) := by decide +kernel
theorem dX6_spans_198 : decode cX6_spans 198 = .ok (.lsub, 1) := by decide +kernel
theorem dX6_spans_199 : decode cX6_spans 199 = .ok (.lastore, 1) := by decide +kernel
theorem dX6_spans_200 : decode cX6_spans 200 = .ok (.iinc 3 1, 3) := by decide +kernel
theorem dX6_spans_203 : decode cX6_spans 203 = .ok (.goto (-91), 3) := by decide +kernel
theorem dX6_spans_206 : decode cX6_spans 206 = .ok (.iinc 2 1, 3) := by decide +kernel
theorem dX6_spans_209 : decode cX6_spans 209 = .ok (.goto (-104), 3) := by decide +kernel
theorem dX6_spans_212 : decode cX6_spans 212 = .ok (.aload_n 0, 1) := by decide +kernel
theorem dX6_spans_213 : decode cX6_spans 213 = .ok (.aload_n 0, 1) := by decide +kernel
theorem dX6_spans_214 : decode cX6_spans 214 = .ok (.getfield 19, 3) := by decide +kernel
theorem dX6_spans_217 : decode cX6_spans 217 = .ok (.iconst 0, 1) := by decide +kernel
theorem dX6_spans_218 : decode cX6_spans 218 = .ok (.laload, 1) := by decide +kernel
theorem dX6_spans_219 : decode cX6_spans 219 = .ok (.aload_n 0, 1) := by decide +kernel
theorem dX6_spans_220 : decode cX6_spans 220 = .ok (.getfield 22, 3) := by decide +kernel
theorem dX6_spans_223 : decode cX6_spans 223 = .ok (.iconst 0, 1) := by decide +kernel
theorem dX6_spans_224 : decode cX6_spans 224 = .ok (.laload, 1) := by decide +kernel
theorem dX6_spans_225 : decode cX6_spans 225 = .ok (.lmul, 1) := by decide +kernel
theorem dX6_spans_226 : decode cX6_spans 226 = .ok (.aload_n 0, 1) := by decide +kernel
theorem dX6_spans_227 : decode cX6_spans 227 = .ok (.getfield 19, 3) := by decide +kernel
theorem dX6_spans_230 : decode cX6_spans 230 = .ok (.iconst 1, 1) := by decide +kernel
theorem dX6_spans_231 : decode cX6_spans 231 = .ok (.laload, 1) := by decide +kernel
theorem dX6_spans_232 : decode cX6_spans 232 = .ok (.aload_n 0, 1) := by decide +kernel
theorem dX6_spans_233 : decode cX6_spans 233 = .ok (.getfield 22, 3) := by decide +kernel
theorem dX6_spans_236 : decode cX6_spans 236 = .ok (.iconst 1, 1) := by decide +kernel
theorem dX6_spans_237 : decode cX6_spans 237 = .ok (.laload, 1) := by decide +kernel
theorem dX6_spans_238 : decode cX6_spans 238 = .ok (.lmul, 1) := by decide +kernel
theorem dX6_spans_239 : decode cX6_spans 239 = .ok (.ladd, 1) := by decide +kernel
theorem dX6_spans_240 : decode cX6_spans 240 = .ok (.aload_n 0, 1) := by decide +kernel
theorem dX6_spans_241 : decode cX6_spans 241 = .ok (.getfield 19, 3) := by decide +kernel
theorem dX6_spans_244 : decode cX6_spans 244 = .ok (.iconst 2, 1) := by decide +kernel
theorem dX6_spans_245 : decode cX6_spans 245 = .ok (.laload, 1) := by decide +kernel
theorem dX6_spans_246 : decode cX6_spans 246 = .ok (.aload_n 0, 1) := by decide +kernel
theorem dX6_spans_247 : decode cX6_spans 247 = .ok (.getfield 22, 3) := by decide +kernel
theorem dX6_spans_250 : decode cX6_spans 250 = .ok (.iconst 2, 1) := by decide +kernel
theorem dX6_spans_251 : decode cX6_spans 251 = .ok (.laload, 1) := by decide +kernel
theorem dX6_spans_252 : decode cX6_spans 252 = .ok (.lmul, 1) := by decide +kernel
theorem dX6_spans_253 : decode cX6_spans 253 = .ok (.ladd, 1) := by decide +kernel
theorem dX6_spans_254 : decode cX6_spans 254 = .ok (.putfield 114, 3) := by decide +kernel
theorem dX6_spans_257 : decode cX6_spans 257 = .ok (.return_, 1) := by decide +kernel
set_option maxRecDepth 20000 in
theorem ggX6_wishOf_X6_wheelAt : GoodIn wsX6_wishOf wsX6_wheelAt := goodIn_r _ [7] (by decide +kernel) (by decide +kernel)
set_option maxRecDepth 20000 in
theorem gX6_wishOf_X6_wheelAt : GoodIn wsX6_wishOf (va_wsS RX6 71 yX6_wheelAt wsX6_wheelAt) := goodIn_app (goodIn_of _ (by decide +kernel)) ggX6_wishOf_X6_wheelAt
set_option maxRecDepth 20000 in
theorem ggX6_wishOf_X6_nearest : GoodIn wsX6_wishOf wsX6_nearest := goodIn_r _ [10, 11, 12, 13, 6, 14] (by decide +kernel) (by decide +kernel)
set_option maxRecDepth 20000 in
theorem gX6_wishOf_X6_nearest : GoodIn wsX6_wishOf (va_wsS RX6 118 yX6_nearest wsX6_nearest) := goodIn_app (goodIn_of _ (by decide +kernel)) ggX6_wishOf_X6_nearest
theorem dX6_wishOf_0 : decode cX6_wishOf 0 = .ok (.lconst 0, 1) := by decide +kernel
theorem dX6_wishOf_1 : decode cX6_wishOf 1 = .ok (.lstore 8, 2) := by decide +kernel
theorem dX6_wishOf_3 : decode cX6_wishOf 3 = .ok (.iconst 0, 1) := by decide +kernel
theorem dX6_wishOf_4 : decode cX6_wishOf 4 = .ok (.istore 10, 2) := by decide +kernel
theorem dX6_wishOf_6 : decode cX6_wishOf 6 = .ok (.iload 10, 2) := by decide +kernel
theorem dX6_wishOf_8 : decode cX6_wishOf 8 = .ok (.iconst 3, 1) := by decide +kernel
theorem dX6_wishOf_9 : decode cX6_wishOf 9 = .ok (.if_icmp .ge 67, 3) := by decide +kernel
theorem dX6_wishOf_12 : decode cX6_wishOf 12 = .ok (.lload 8, 2) := by decide +kernel
theorem dX6_wishOf_14 : decode cX6_wishOf 14 = .ok (.aload_n 0, 1) := by decide +kernel
theorem dX6_wishOf_15 : decode cX6_wishOf 15 = .ok (.getfield 7, 3) := by decide +kernel
theorem dX6_wishOf_18 : decode cX6_wishOf 18 = .ok (.iload_n 1, 1) := by decide +kernel
theorem dX6_wishOf_19 : decode cX6_wishOf 19 = .ok (.iload 10, 2) := by decide +kernel
theorem dX6_wishOf_21 : decode cX6_wishOf 21 = .ok (.invokestatic 71, 3) := by decide +kernel
theorem dX6_wishOf_24 : decode cX6_wishOf 24 = .ok (.laload, 1) := by decide +kernel
theorem dX6_wishOf_25 : decode cX6_wishOf 25 = .ok (.aload_n 0, 1) := by decide +kernel
theorem dX6_wishOf_26 : decode cX6_wishOf 26 = .ok (.getfield 22, 3) := by decide +kernel
theorem dX6_wishOf_29 : decode cX6_wishOf 29 = .ok (.iconst 3, 1) := by decide +kernel
theorem dX6_wishOf_30 : decode cX6_wishOf 30 = .ok (.iload 10, 2) := by decide +kernel
theorem dX6_wishOf_32 : decode cX6_wishOf 32 = .ok (.imul, 1) := by decide +kernel
theorem dX6_wishOf_33 : decode cX6_wishOf 33 = .ok (.laload, 1) := by decide +kernel
theorem dX6_wishOf_34 : decode cX6_wishOf 34 = .ok (.lload_n 2, 1) := by decide +kernel
theorem dX6_wishOf_35 : decode cX6_wishOf 35 = .ok (.lmul, 1) := by decide +kernel
theorem dX6_wishOf_36 : decode cX6_wishOf 36 = .ok (.aload_n 0, 1) := by decide +kernel
theorem dX6_wishOf_37 : decode cX6_wishOf 37 = .ok (.getfield 22, 3) := by decide +kernel
theorem dX6_wishOf_40 : decode cX6_wishOf 40 = .ok (.iconst 3, 1) := by decide +kernel
theorem dX6_wishOf_41 : decode cX6_wishOf 41 = .ok (.iload 10, 2) := by decide +kernel
theorem dX6_wishOf_43 : decode cX6_wishOf 43 = .ok (.imul, 1) := by decide +kernel
theorem dX6_wishOf_44 : decode cX6_wishOf 44 = .ok (.iconst 1, 1) := by decide +kernel
theorem dX6_wishOf_45 : decode cX6_wishOf 45 = .ok (.iadd, 1) := by decide +kernel
theorem dX6_wishOf_46 : decode cX6_wishOf 46 = .ok (.laload, 1) := by decide +kernel
theorem dX6_wishOf_47 : decode cX6_wishOf 47 = .ok (.lload 4, 2) := by decide +kernel
theorem dX6_wishOf_49 : decode cX6_wishOf 49 = .ok (.lmul, 1) := by decide +kernel
theorem dX6_wishOf_50 : decode cX6_wishOf 50 = .ok (.ladd, 1) := by decide +kernel
theorem dX6_wishOf_51 : decode cX6_wishOf 51 = .ok (.aload_n 0, 1) := by decide +kernel
theorem dX6_wishOf_52 : decode cX6_wishOf 52 = .ok (.getfield 22, 3) := by decide +kernel
theorem dX6_wishOf_55 : decode cX6_wishOf 55 = .ok (.iconst 3, 1) := by decide +kernel
theorem dX6_wishOf_56 : decode cX6_wishOf 56 = .ok (.iload 10, 2) := by decide +kernel
theorem dX6_wishOf_58 : decode cX6_wishOf 58 = .ok (.imul, 1) := by decide +kernel
theorem dX6_wishOf_59 : decode cX6_wishOf 59 = .ok (.iconst 2, 1) := by decide +kernel
theorem dX6_wishOf_60 : decode cX6_wishOf 60 = .ok (.iadd, 1) := by decide +kernel
theorem dX6_wishOf_61 : decode cX6_wishOf 61 = .ok (.laload, 1) := by decide +kernel
theorem dX6_wishOf_62 : decode cX6_wishOf 62 = .ok (.lload 6, 2) := by decide +kernel
theorem dX6_wishOf_64 : decode cX6_wishOf 64 = .ok (.lmul, 1) := by decide +kernel
theorem dX6_wishOf_65 : decode cX6_wishOf 65 = .ok (.ladd, 1) := by decide +kernel
theorem dX6_wishOf_66 : decode cX6_wishOf 66 = .ok (.lmul, 1) := by decide +kernel
theorem dX6_wishOf_67 : decode cX6_wishOf 67 = .ok (.ladd, 1) := by decide +kernel
theorem dX6_wishOf_68 : decode cX6_wishOf 68 = .ok (.lstore 8, 2) := by decide +kernel
theorem dX6_wishOf_70 : decode cX6_wishOf 70 = .ok (.iinc 10 1, 3) := by decide +kernel
theorem dX6_wishOf_73 : decode cX6_wishOf 73 = .ok (.goto (-67), 3) := by decide +kernel
theorem dX6_wishOf_76 : decode cX6_wishOf 76 = .ok (.lload 8, 2) := by decide +kernel
theorem dX6_wishOf_78 : decode cX6_wishOf 78 = .ok (.lneg, 1) := by decide +kernel
theorem dX6_wishOf_79 : decode cX6_wishOf 79 = .ok (.aload_n 0, 1) := by decide +kernel
theorem dX6_wishOf_80 : decode cX6_wishOf 80 = .ok (.getfield 114, 3) := by decide +kernel
theorem dX6_wishOf_83 : decode cX6_wishOf 83 = .ok (.invokestatic 118, 3) := by decide +kernel
theorem dX6_wishOf_86 : decode cX6_wishOf 86 = .ok (.lreturn, 1) := by decide +kernel
set_option maxRecDepth 20000 in
theorem ggX6_room_X6_wheelAt : GoodIn wsX6_room wsX6_wheelAt := goodIn_r _ [5] (by decide +kernel) (by decide +kernel)
set_option maxRecDepth 20000 in
theorem gX6_room_X6_wheelAt : GoodIn wsX6_room (va_wsS RX6 71 yX6_wheelAt wsX6_wheelAt) := goodIn_app (goodIn_of _ (by decide +kernel)) ggX6_room_X6_wheelAt
theorem dX6_room_0 : decode cX6_room 0 = .ok (.aload_n 0, 1) := by decide +kernel
theorem dX6_room_1 : decode cX6_room 1 = .ok (.getfield 7, 3) := by decide +kernel
theorem dX6_room_4 : decode cX6_room 4 = .ok (.iload_n 1, 1) := by decide +kernel
theorem dX6_room_5 : decode cX6_room 5 = .ok (.iconst 4, 1) := by decide +kernel
theorem dX6_room_6 : decode cX6_room 6 = .ok (.invokestatic 71, 3) := by decide +kernel
theorem dX6_room_9 : decode cX6_room 9 = .ok (.laload, 1) := by decide +kernel
theorem dX6_room_10 : decode cX6_room 10 = .ok (.aload_n 0, 1) := by decide +kernel
theorem dX6_room_11 : decode cX6_room 11 = .ok (.getfield 7, 3) := by decide +kernel
theorem dX6_room_14 : decode cX6_room 14 = .ok (.iload_n 1, 1) := by decide +kernel
theorem dX6_room_15 : decode cX6_room 15 = .ok (.iconst 3, 1) := by decide +kernel
theorem dX6_room_16 : decode cX6_room 16 = .ok (.invokestatic 71, 3) := by decide +kernel
theorem dX6_room_19 : decode cX6_room 19 = .ok (.laload, 1) := by decide +kernel
theorem dX6_room_20 : decode cX6_room 20 = .ok (.lsub, 1) := by decide +kernel
theorem dX6_room_21 : decode cX6_room 21 = .ok (.lstore 4, 2) := by decide +kernel
theorem dX6_room_23 : decode cX6_room 23 = .ok (.aload_n 0, 1) := by decide +kernel
theorem dX6_room_24 : decode cX6_room 24 = .ok (.getfield 7, 3) := by decide +kernel
theorem dX6_room_27 : decode cX6_room 27 = .ok (.iload_n 1, 1) := by decide +kernel
theorem dX6_room_28 : decode cX6_room 28 = .ok (.iconst 4, 1) := by decide +kernel
theorem dX6_room_29 : decode cX6_room 29 = .ok (.invokestatic 71, 3) := by decide +kernel
theorem dX6_room_32 : decode cX6_room 32 = .ok (.laload, 1) := by decide +kernel
theorem dX6_room_33 : decode cX6_room 33 = .ok (.lneg, 1) := by decide +kernel
theorem dX6_room_34 : decode cX6_room 34 = .ok (.aload_n 0, 1) := by decide +kernel
theorem dX6_room_35 : decode cX6_room 35 = .ok (.getfield 7, 3) := by decide +kernel
theorem dX6_room_38 : decode cX6_room 38 = .ok (.iload_n 1, 1) := by decide +kernel
theorem dX6_room_39 : decode cX6_room 39 = .ok (.iconst 3, 1) := by decide +kernel
theorem dX6_room_40 : decode cX6_room 40 = .ok (.invokestatic 71, 3) := by decide +kernel
theorem dX6_room_43 : decode cX6_room 43 = .ok (.laload, 1) := by decide +kernel
theorem dX6_room_44 : decode cX6_room 44 = .ok (.lsub, 1) := by decide +kernel
theorem dX6_room_45 : decode cX6_room 45 = .ok (.lstore 6, 2) := by decide +kernel
theorem dX6_room_47 : decode cX6_room 47 = .ok (.lload_n 2, 1) := by decide +kernel
theorem dX6_room_48 : decode cX6_room 48 = .ok (.lconst 0, 1) := by decide +kernel
theorem dX6_room_49 : decode cX6_room 49 = .ok (.lcmp, 1) := by decide +kernel
theorem dX6_room_50 : decode cX6_room 50 = .ok (.ifCond .le 28, 3) := by decide +kernel
theorem dX6_room_53 : decode cX6_room 53 = .ok (.lload 4, 2) := by decide +kernel
theorem dX6_room_55 : decode cX6_room 55 = .ok (.lconst 0, 1) := by decide +kernel
theorem dX6_room_56 : decode cX6_room 56 = .ok (.lcmp, 1) := by decide +kernel
theorem dX6_room_57 : decode cX6_room 57 = .ok (.ifCond .ge 7, 3) := by decide +kernel
theorem dX6_room_60 : decode cX6_room 60 = .ok (.lconst 0, 1) := by decide +kernel
theorem dX6_room_61 : decode cX6_room 61 = .ok (.goto 16, 3) := by decide +kernel
theorem dX6_room_64 : decode cX6_room 64 = .ok (.lload_n 2, 1) := by decide +kernel
theorem dX6_room_65 : decode cX6_room 65 = .ok (.lload 4, 2) := by decide +kernel
theorem dX6_room_67 : decode cX6_room 67 = .ok (.lcmp, 1) := by decide +kernel
theorem dX6_room_68 : decode cX6_room 68 = .ok (.ifCond .ge 7, 3) := by decide +kernel
theorem dX6_room_71 : decode cX6_room 71 = .ok (.lload_n 2, 1) := by decide +kernel
theorem dX6_room_72 : decode cX6_room 72 = .ok (.goto 5, 3) := by decide +kernel
theorem dX6_room_75 : decode cX6_room 75 = .ok (.lload 4, 2) := by decide +kernel
theorem dX6_room_77 : decode cX6_room 77 = .ok (.lreturn, 1) := by decide +kernel
theorem dX6_room_78 : decode cX6_room 78 = .ok (.lload 6, 2) := by decide +kernel
theorem dX6_room_80 : decode cX6_room 80 = .ok (.lconst 0, 1) := by decide +kernel
theorem dX6_room_81 : decode cX6_room 81 = .ok (.lcmp, 1) := by decide +kernel
theorem dX6_room_82 : decode cX6_room 82 = .ok (.ifCond .le 7, 3) := by decide +kernel
theorem dX6_room_85 : decode cX6_room 85 = .ok (.lconst 0, 1) := by decide +kernel
theorem dX6_room_86 : decode cX6_room 86 = .ok (.goto 16, 3) := by decide +kernel
theorem dX6_room_89 : decode cX6_room 89 = .ok (.lload_n 2, 1) := by decide +kernel
theorem dX6_room_90 : decode cX6_room 90 = .ok (.lload 6, 2) := by decide +kernel
theorem dX6_room_92 : decode cX6_room 92 = .ok (.lcmp, 1) := by decide +kernel
theorem dX6_room_93 : decode cX6_room 93 = .ok (.ifCond .le 7, 3) := by decide +kernel
theorem dX6_room_96 : decode cX6_room 96 = .ok (.lload_n 2, 1) := by decide +kernel
theorem dX6_room_97 : decode cX6_room 97 = .ok (.goto 5, 3) := by decide +kernel
theorem dX6_room_100 : decode cX6_room 100 = .ok (.lload 6, 2) := by decide +kernel
theorem dX6_room_102 : decode cX6_room 102 = .ok (.lreturn, 1) := by decide +kernel
set_option maxRecDepth 20000 in
theorem ggX6_gives_X6_wheelAt : GoodIn wsX6_gives wsX6_wheelAt := goodIn_r _ [5] (by decide +kernel) (by decide +kernel)
set_option maxRecDepth 20000 in
theorem gX6_gives_X6_wheelAt : GoodIn wsX6_gives (va_wsS RX6 71 yX6_wheelAt wsX6_wheelAt) := goodIn_app (goodIn_of _ (by decide +kernel)) ggX6_gives_X6_wheelAt
set_option maxRecDepth 20000 in
theorem ggX6_gives_X6_axisAt : GoodIn wsX6_gives wsX6_axisAt := goodIn_r _ [8] (by decide +kernel) (by decide +kernel)
set_option maxRecDepth 20000 in
theorem gX6_gives_X6_axisAt : GoodIn wsX6_gives (va_wsS RX6 45 yX6_axisAt wsX6_axisAt) := goodIn_app (goodIn_of _ (by decide +kernel)) ggX6_gives_X6_axisAt
theorem dX6_gives_0 : decode cX6_gives 0 = .ok (.aload_n 0, 1) := by decide +kernel
theorem dX6_gives_1 : decode cX6_gives 1 = .ok (.getfield 7, 3) := by decide +kernel
theorem dX6_gives_4 : decode cX6_gives 4 = .ok (.iload_n 1, 1) := by decide +kernel
theorem dX6_gives_5 : decode cX6_gives 5 = .ok (.iconst 3, 1) := by decide +kernel
theorem dX6_gives_6 : decode cX6_gives 6 = .ok (.invokestatic 71, 3) := by decide +kernel
theorem dX6_gives_9 : decode cX6_gives 9 = .ok (.dup2, 1) := by decide +kernel
theorem dX6_gives_10 : decode cX6_gives 10 = .ok (.laload, 1) := by decide +kernel
theorem dX6_gives_11 : decode cX6_gives 11 = .ok (.lload_n 2, 1) := by decide +kernel
theorem dX6_gives_12 : decode cX6_gives 12 = .ok (.ladd, 1) := by decide +kernel
theorem dX6_gives_13 : decode cX6_gives 13 = .ok (.lastore, 1) := by decide +kernel
theorem dX6_gives_14 : decode cX6_gives 14 = .ok (.aload_n 0, 1) := by decide +kernel
theorem dX6_gives_15 : decode cX6_gives 15 = .ok (.getfield 7, 3) := by decide +kernel
theorem dX6_gives_18 : decode cX6_gives 18 = .ok (.iload_n 1, 1) := by decide +kernel
theorem dX6_gives_19 : decode cX6_gives 19 = .ok (.bipush 7, 2) := by decide +kernel
theorem dX6_gives_21 : decode cX6_gives 21 = .ok (.invokestatic 71, 3) := by decide +kernel
theorem dX6_gives_24 : decode cX6_gives 24 = .ok (.lload_n 2, 1) := by decide +kernel
theorem dX6_gives_25 : decode cX6_gives 25 = .ok (.lastore, 1) := by decide +kernel
theorem dX6_gives_26 : decode cX6_gives 26 = .ok (.iconst 0, 1) := by decide +kernel
theorem dX6_gives_27 : decode cX6_gives 27 = .ok (.istore 4, 2) := by decide +kernel
theorem dX6_gives_29 : decode cX6_gives 29 = .ok (.iload 4, 2) := by decide +kernel
theorem dX6_gives_31 : decode cX6_gives 31 = .ok (.iconst 3, 1) := by decide +kernel
theorem dX6_gives_32 : decode cX6_gives 32 = .ok (.if_icmp .ge 36, 3) := by decide +kernel
theorem dX6_gives_35 : decode cX6_gives 35 = .ok (.aload_n 0, 1) := by decide +kernel
theorem dX6_gives_36 : decode cX6_gives 36 = .ok (.getfield 7, 3) := by decide +kernel
theorem dX6_gives_39 : decode cX6_gives 39 = .ok (.iload 4, 2) := by decide +kernel
theorem dX6_gives_41 : decode cX6_gives 41 = .ok (.iconst 1, 1) := by decide +kernel
theorem dX6_gives_42 : decode cX6_gives 42 = .ok (.invokestatic 45, 3) := by decide +kernel
theorem dX6_gives_45 : decode cX6_gives 45 = .ok (.dup2, 1) := by decide +kernel
theorem dX6_gives_46 : decode cX6_gives 46 = .ok (.laload, 1) := by decide +kernel
theorem dX6_gives_47 : decode cX6_gives 47 = .ok (.aload_n 0, 1) := by decide +kernel
theorem dX6_gives_48 : decode cX6_gives 48 = .ok (.getfield 7, 3) := by decide +kernel
theorem dX6_gives_51 : decode cX6_gives 51 = .ok (.iload_n 1, 1) := by decide +kernel
theorem dX6_gives_52 : decode cX6_gives 52 = .ok (.iload 4, 2) := by decide +kernel
theorem dX6_gives_54 : decode cX6_gives 54 = .ok (.invokestatic 71, 3) := by decide +kernel
theorem dX6_gives_57 : decode cX6_gives 57 = .ok (.laload, 1) := by decide +kernel
theorem dX6_gives_58 : decode cX6_gives 58 = .ok (.lload_n 2, 1) := by decide +kernel
theorem dX6_gives_59 : decode cX6_gives 59 = .ok (.lmul, 1) := by decide +kernel
theorem dX6_gives_60 : decode cX6_gives 60 = .ok (.lsub, 1) := by decide +kernel
theorem dX6_gives_61 : decode cX6_gives 61 = .ok (.lastore, 1) := by decide +kernel
theorem dX6_gives_62 : decode cX6_gives 62 = .ok (.iinc 4 1, 3) := by decide +kernel
theorem dX6_gives_65 : decode cX6_gives 65 = .ok (.goto (-36), 3) := by decide +kernel
theorem dX6_gives_68 : decode cX6_gives 68 = .ok (.return_, 1) := by decide +kernel
set_option maxRecDepth 20000 in
theorem ggX6_shares_X6_spans : GoodIn wsX6_shares wsX6_spans := goodIn_r _ [15, 16, 2, 17, 3, 18, 19, 20, 14, 21, 22, 23, 24, 25, 26, 27, 56, 57, 58, 59, 60, 61, 62, 63, 64, 65, 66] (by decide +kernel) (by decide +kernel)
set_option maxRecDepth 20000 in
theorem gX6_shares_X6_spans : GoodIn wsX6_shares (wsV RX6 122 RX6 yX6_spans wsX6_spans) := goodIn_app (goodIn_of _ (by decide +kernel)) ggX6_shares_X6_spans
set_option maxRecDepth 20000 in
theorem ggX6_shares_X6_wheelAt : GoodIn wsX6_shares wsX6_wheelAt := goodIn_r _ [24] (by decide +kernel) (by decide +kernel)
set_option maxRecDepth 20000 in
theorem gX6_shares_X6_wheelAt : GoodIn wsX6_shares (va_wsS RX6 71 yX6_wheelAt wsX6_wheelAt) := goodIn_app (goodIn_of _ (by decide +kernel)) ggX6_shares_X6_wheelAt
set_option maxRecDepth 20000 in
theorem ggX6_shares_X6_reasons : GoodIn wsX6_shares wsX6_reasons := goodIn_r _ [31, 2, 56, 57, 58, 59, 60, 61, 62, 63, 64, 65, 66] (by decide +kernel) (by decide +kernel)
set_option maxRecDepth 20000 in
theorem gX6_shares_X6_reasons : GoodIn wsX6_shares (wsV RX6 53 RX6 yX6_reasons wsX6_reasons) := goodIn_app (goodIn_of _ (by decide +kernel)) ggX6_shares_X6_reasons
set_option maxRecDepth 20000 in
theorem ggX6_shares_X6_works : GoodIn wsX6_shares wsX6_works := goodIn_r _ [21, 2, 22, 23, 14, 24, 56, 57, 58, 59, 60, 61, 62, 63, 64, 65, 66] (by decide +kernel) (by decide +kernel)
set_option maxRecDepth 20000 in
theorem gX6_shares_X6_works : GoodIn wsX6_shares (wsV RX6 108 RX6 yX6_works wsX6_works) := goodIn_app (goodIn_of _ (by decide +kernel)) ggX6_shares_X6_works
set_option maxRecDepth 20000 in
theorem ggX6_shares_X6_wishOf : GoodIn wsX6_shares wsX6_wishOf := goodIn_r _ [35, 2, 17, 3, 22, 23, 14, 24, 36, 37, 38, 7, 39, 40, 41, 56, 57, 58, 59, 60, 61, 62, 63, 64, 65, 66] (by decide +kernel) (by decide +kernel)
set_option maxRecDepth 20000 in
theorem gX6_shares_X6_wishOf : GoodIn wsX6_shares (wsV RX6 126 RX6 yX6_wishOf wsX6_wishOf) := goodIn_app (goodIn_of _ (by decide +kernel)) ggX6_shares_X6_wishOf
set_option maxRecDepth 20000 in
theorem ggX6_shares_X6_held : GoodIn wsX6_shares wsX6_held := goodIn_r _ [44] (by decide +kernel) (by decide +kernel)
set_option maxRecDepth 20000 in
theorem gX6_shares_X6_held : GoodIn wsX6_shares (va_wsS RX6 130 yX6_held wsX6_held) := goodIn_app (goodIn_of _ (by decide +kernel)) ggX6_shares_X6_held
set_option maxRecDepth 20000 in
theorem ggX6_shares_X6_room : GoodIn wsX6_shares wsX6_room := goodIn_r _ [48, 2, 22, 23, 14, 24, 56, 57, 58, 59, 60, 61, 62, 63, 64, 65, 66] (by decide +kernel) (by decide +kernel)
set_option maxRecDepth 20000 in
theorem gX6_shares_X6_room : GoodIn wsX6_shares (wsV RX6 133 RX6 yX6_room wsX6_room) := goodIn_app (goodIn_of _ (by decide +kernel)) ggX6_shares_X6_room
set_option maxRecDepth 20000 in
theorem ggX6_shares_X6_gives : GoodIn wsX6_shares wsX6_gives := goodIn_r _ [52, 2, 22, 23, 14, 24, 53, 54, 55, 56, 57, 58, 59, 60, 61, 62, 63, 64, 65, 66] (by decide +kernel) (by decide +kernel)
set_option maxRecDepth 20000 in
theorem gX6_shares_X6_gives : GoodIn wsX6_shares (wsV RX6 143 RX6 yX6_gives wsX6_gives) := goodIn_app (goodIn_of _ (by decide +kernel)) ggX6_shares_X6_gives
theorem dX6_shares_0 : decode cX6_shares 0 = .ok (.aload_n 0, 1) := by decide +kernel
theorem dX6_shares_1 : decode cX6_shares 1 = .ok (.ldc 121, 2) := by decide +kernel
theorem dX6_shares_3 : decode cX6_shares 3 = .ok (.invokevirtual 122, 3) := by decide +kernel
theorem dX6_shares_6 : decode cX6_shares 6 = .ok (.iconst 0, 1) := by decide +kernel
theorem dX6_shares_7 : decode cX6_shares 7 = .ok (.istore_n 1, 1) := by decide +kernel
theorem dX6_shares_8 : decode cX6_shares 8 = .ok (.iload_n 1, 1) := by decide +kernel
theorem dX6_shares_9 : decode cX6_shares 9 = .ok (.i2l, 1) := by decide +kernel
theorem dX6_shares_10 : decode cX6_shares 10 = .ok (.aload_n 0, 1) := by decide +kernel
theorem dX6_shares_11 : decode cX6_shares 11 = .ok (.getfield 7, 3) := by decide +kernel
theorem dX6_shares_14 : decode cX6_shares 14 = .ok (.bipush 6, 2) := by decide +kernel
theorem dX6_shares_16 : decode cX6_shares 16 = .ok (.laload, 1) := by decide +kernel
theorem dX6_shares_17 : decode cX6_shares 17 = .ok (.lcmp, 1) := by decide +kernel
theorem dX6_shares_18 : decode cX6_shares 18 = .ok (.ifCond .ge 21, 3) := by decide +kernel
theorem dX6_shares_21 : decode cX6_shares 21 = .ok (.aload_n 0, 1) := by decide +kernel
theorem dX6_shares_22 : decode cX6_shares 22 = .ok (.getfield 7, 3) := by decide +kernel
theorem dX6_shares_25 : decode cX6_shares 25 = .ok (.iload_n 1, 1) := by decide +kernel
theorem dX6_shares_26 : decode cX6_shares 26 = .ok (.bipush 7, 2) := by decide +kernel
theorem dX6_shares_28 : decode cX6_shares 28 = .ok (.invokestatic 71, 3) := by decide +kernel
theorem dX6_shares_31 : decode cX6_shares 31 = .ok (.lconst 0, 1) := by decide +kernel
theorem dX6_shares_32 : decode cX6_shares 32 = .ok (.lastore, 1) := by decide +kernel
theorem dX6_shares_33 : decode cX6_shares 33 = .ok (.iinc 1 1, 3) := by decide +kernel
theorem dX6_shares_36 : decode cX6_shares 36 = .ok (.goto (-28), 3) := by decide +kernel
theorem dX6_shares_39 : decode cX6_shares 39 = .ok (.aload_n 0, 1) := by decide +kernel
theorem dX6_shares_40 : decode cX6_shares 40 = .ok (.getfield 114, 3) := by decide +kernel
theorem dX6_shares_43 : decode cX6_shares 43 = .ok (.lconst 0, 1) := by decide +kernel
theorem dX6_shares_44 : decode cX6_shares 44 = .ok (.lcmp, 1) := by decide +kernel
theorem dX6_shares_45 : decode cX6_shares 45 = .ok (.ifCond .ne 68, 3) := by decide +kernel
theorem dX6_shares_48 : decode cX6_shares 48 = .ok (.aload_n 0, 1) := by decide +kernel
theorem dX6_shares_49 : decode cX6_shares 49 = .ok (.lconst 1, 1) := by decide +kernel
theorem dX6_shares_50 : decode cX6_shares 50 = .ok (.ldc2_w 51, 3) := by decide +kernel
theorem dX6_shares_53 : decode cX6_shares 53 = .ok (.ldc2_w 51, 3) := by decide +kernel
theorem dX6_shares_56 : decode cX6_shares 56 = .ok (.invokevirtual 53, 3) := by decide +kernel
theorem dX6_shares_59 : decode cX6_shares 59 = .ok (.aload_n 0, 1) := by decide +kernel
theorem dX6_shares_60 : decode cX6_shares 60 = .ok (.getfield 7, 3) := by decide +kernel
theorem dX6_shares_63 : decode cX6_shares 63 = .ok (.bipush 6, 2) := by decide +kernel
theorem dX6_shares_65 : decode cX6_shares 65 = .ok (.laload, 1) := by decide +kernel
theorem dX6_shares_66 : decode cX6_shares 66 = .ok (.l2i, 1) := by decide +kernel
theorem dX6_shares_67 : decode cX6_shares 67 = .ok (.iconst 1, 1) := by decide +kernel
theorem dX6_shares_68 : decode cX6_shares 68 = .ok (.isub, 1) := by decide +kernel
theorem dX6_shares_69 : decode cX6_shares 69 = .ok (.istore_n 1, 1) := by decide +kernel
theorem dX6_shares_70 : decode cX6_shares 70 = .ok (.iload_n 1, 1) := by decide +kernel
theorem dX6_shares_71 : decode cX6_shares 71 = .ok (.ifCond .lt 40, 3) := by decide +kernel
theorem dX6_shares_74 : decode cX6_shares 74 = .ok (.aload_n 0, 1) := by decide +kernel
theorem dX6_shares_75 : decode cX6_shares 75 = .ok (.getfield 7, 3) := by decide +kernel
theorem dX6_shares_78 : decode cX6_shares 78 = .ok (.bipush 9, 2) := by decide +kernel
theorem dX6_shares_80 : decode cX6_shares 80 = .ok (.aload_n 0, 1) := by decide +kernel
theorem dX6_shares_81 : decode cX6_shares 81 = .ok (.iload_n 1, 1) := by decide +kernel
theorem dX6_shares_82 : decode cX6_shares 82 = .ok (.invokevirtual 108, 3) := by decide +kernel
theorem dX6_shares_85 : decode cX6_shares 85 = .ok (.ifCond .eq 13, 3) := by decide +kernel
theorem dX6_shares_88 : decode cX6_shares 88 = .ok (.aload_n 0, 1) := by decide +kernel
theorem dX6_shares_89 : decode cX6_shares 89 = .ok (.getfield 7, 3) := by decide +kernel
theorem dX6_shares_92 : decode cX6_shares 92 = .ok (.bipush 9, 2) := by decide +kernel
theorem dX6_shares_94 : decode cX6_shares 94 = .ok (.laload, 1) := by decide +kernel
theorem dX6_shares_95 : decode cX6_shares 95 = .ok (.goto 9, 3) := by decide +kernel
theorem dX6_shares_98 : decode cX6_shares 98 = .ok (.ldc2_w 37, 3) := by decide +kernel
theorem dX6_shares_101 : decode cX6_shares 101 = .ok (.iload_n 1, 1) := by decide +kernel
theorem dX6_shares_102 : decode cX6_shares 102 = .ok (.i2l, 1) := by decide +kernel
theorem dX6_shares_103 : decode cX6_shares 103 = .ok (.ladd, 1) := by decide +kernel
theorem dX6_shares_104 : decode cX6_shares 104 = .ok (.lastore, 1) := by decide +kernel
theorem dX6_shares_105 : decode cX6_shares 105 = .ok (.iinc 1 (-1), 3) := by decide +kernel
theorem dX6_shares_108 : decode cX6_shares 108 = .ok (.goto (-38), 3) := by decide +kernel
theorem dX6_shares_111 : decode cX6_shares 111 = .ok (.iconst 0, 1) := by decide +kernel
theorem dX6_shares_112 : decode cX6_shares 112 = .ok (.ireturn, 1) := by decide +kernel
theorem dX6_shares_113 : decode cX6_shares 113 = .ok (.aload_n 0, 1) := by decide +kernel
theorem dX6_shares_114 : decode cX6_shares 114 = .ok (.lconst 0, 1) := by decide +kernel
theorem dX6_shares_115 : decode cX6_shares 115 = .ok (.ldc2_w 51, 3) := by decide +kernel
theorem dX6_shares_118 : decode cX6_shares 118 = .ok (.ldc2_w 51, 3) := by decide +kernel
theorem dX6_shares_121 : decode cX6_shares 121 = .ok (.invokevirtual 53, 3) := by decide +kernel
theorem dX6_shares_124 : decode cX6_shares 124 = .ok (.iconst 0, 1) := by decide +kernel
theorem dX6_shares_125 : decode cX6_shares 125 = .ok (.istore_n 1, 1) := by decide +kernel
theorem dX6_shares_126 : decode cX6_shares 126 = .ok (.iload_n 1, 1) := by decide +kernel
theorem dX6_shares_127 : decode cX6_shares 127 = .ok (.i2l, 1) := by decide +kernel
theorem dX6_shares_128 : decode cX6_shares 128 = .ok (.aload_n 0, 1) := by decide +kernel
theorem dX6_shares_129 : decode cX6_shares 129 = .ok (.getfield 7, 3) := by decide +kernel
theorem dX6_shares_132 : decode cX6_shares 132 = .ok (.bipush 6, 2) := by decide +kernel
theorem dX6_shares_134 : decode cX6_shares 134 = .ok (.laload, 1) := by decide +kernel
theorem dX6_shares_135 : decode cX6_shares 135 = .ok (.lcmp, 1) := by decide +kernel
theorem dX6_shares_136 : decode cX6_shares 136 = .ok (.ifCond .ge 122, 3) := by decide +kernel
theorem dX6_shares_139 : decode cX6_shares 139 = .ok (.aload_n 0, 1) := by decide +kernel
theorem dX6_shares_140 : decode cX6_shares 140 = .ok (.iload_n 1, 1) := by decide +kernel
theorem dX6_shares_141 : decode cX6_shares 141 = .ok (.invokevirtual 108, 3) := by decide +kernel
theorem dX6_shares_144 : decode cX6_shares 144 = .ok (.ifCond .eq 108, 3) := by decide +kernel
theorem dX6_shares_147 : decode cX6_shares 147 = .ok (.aload_n 0, 1) := by decide +kernel
theorem dX6_shares_148 : decode cX6_shares 148 = .ok (.iload_n 1, 1) := by decide +kernel
theorem dX6_shares_149 : decode cX6_shares 149 = .ok (.aload_n 0, 1) := by decide +kernel
theorem dX6_shares_150 : decode cX6_shares 150 = .ok (.getfield 25, 3) := by decide +kernel
theorem dX6_shares_153 : decode cX6_shares 153 = .ok (.iconst 0, 1) := by decide +kernel
theorem dX6_shares_154 : decode cX6_shares 154 = .ok (.laload, 1) := by decide +kernel
theorem dX6_shares_155 : decode cX6_shares 155 = .ok (.aload_n 0, 1) := by decide +kernel
theorem dX6_shares_156 : decode cX6_shares 156 = .ok (.getfield 25, 3) := by decide +kernel
theorem dX6_shares_159 : decode cX6_shares 159 = .ok (.iconst 1, 1) := by decide +kernel
theorem dX6_shares_160 : decode cX6_shares 160 = .ok (.laload, 1) := by decide +kernel
theorem dX6_shares_161 : decode cX6_shares 161 = .ok (.aload_n 0, 1) := by decide +kernel
theorem dX6_shares_162 : decode cX6_shares 162 = .ok (.getfield 25, 3) := by decide +kernel
theorem dX6_shares_165 : decode cX6_shares 165 = .ok (.iconst 2, 1) := by decide +kernel
theorem dX6_shares_166 : decode cX6_shares 166 = .ok (.laload, 1) := by decide +kernel
theorem dX6_shares_167 : decode cX6_shares 167 = .ok (.invokevirtual 126, 3) := by decide +kernel
theorem dX6_shares_170 : decode cX6_shares 170 = .ok (.lstore_n 2, 1) := by decide +kernel
theorem dX6_shares_171 : decode cX6_shares 171 = .ok (.lload_n 2, 1) := by decide +kernel
theorem dX6_shares_172 : decode cX6_shares 172 = .ok (.aload_n 0, 1) := by decide +kernel
theorem dX6_shares_173 : decode cX6_shares 173 = .ok (.getfield 7, 3) := by decide +kernel
theorem dX6_shares_176 : decode cX6_shares 176 = .ok (.iload_n 1, 1) := by decide +kernel
theorem dX6_shares_177 : decode cX6_shares 177 = .ok (.iconst 5, 1) := by decide +kernel
theorem dX6_shares_178 : decode cX6_shares 178 = .ok (.invokestatic 71, 3) := by decide +kernel
theorem dX6_shares_181 : decode cX6_shares 181 = .ok (.laload, 1) := by decide +kernel
theorem dX6_shares_182 : decode cX6_shares 182 = .ok (.invokestatic 130, 3) := by decide +kernel
theorem dX6_shares_185 : decode cX6_shares 185 = .ok (.lstore 4, 2) := by decide +kernel
theorem dX6_shares_187 : decode cX6_shares 187 = .ok (.aload_n 0, 1) := by decide +kernel
theorem dX6_shares_188 : decode cX6_shares 188 = .ok (.iload_n 1, 1) := by decide +kernel
theorem dX6_shares_189 : decode cX6_shares 189 = .ok (.lload 4, 2) := by decide +kernel
theorem dX6_shares_191 : decode cX6_shares 191 = .ok (.invokevirtual 133, 3) := by decide +kernel
theorem dX6_shares_194 : decode cX6_shares 194 = .ok (.lstore 6, 2) := by decide +kernel
theorem dX6_shares_196 : decode cX6_shares 196 = .ok (.lload 6, 2) := by decide +kernel
theorem dX6_shares_198 : decode cX6_shares 198 = .ok (.lload_n 2, 1) := by decide +kernel
theorem dX6_shares_199 : decode cX6_shares 199 = .ok (.lcmp, 1) := by decide +kernel
theorem dX6_shares_200 : decode cX6_shares 200 = .ok (.ifCond .eq 45, 3) := by decide +kernel
theorem dX6_shares_203 : decode cX6_shares 203 = .ok (.aload_n 0, 1) := by decide +kernel
theorem dX6_shares_204 : decode cX6_shares 204 = .ok (.getfield 7, 3) := by decide +kernel
theorem dX6_shares_207 : decode cX6_shares 207 = .ok (.bipush 8, 2) := by decide +kernel
theorem dX6_shares_209 : decode cX6_shares 209 = .ok (.laload, 1) := by decide +kernel
theorem dX6_shares_210 : decode cX6_shares 210 = .ok (.lconst 0, 1) := by decide +kernel
theorem dX6_shares_211 : decode cX6_shares 211 = .ok (.lcmp, 1) := by decide +kernel
theorem dX6_shares_212 : decode cX6_shares 212 = .ok (.ifCond .ne 33, 3) := by decide +kernel
theorem dX6_shares_215 : decode cX6_shares 215 = .ok (.aload_n 0, 1) := by decide +kernel
theorem dX6_shares_216 : decode cX6_shares 216 = .ok (.ldc2_w 61, 3) := by decide +kernel
theorem dX6_shares_219 : decode cX6_shares 219 = .ok (.ldc2_w 137, 3) := by decide +kernel
theorem dX6_shares_222 : decode cX6_shares 222 = .ok (.iload_n 1, 1) := by decide +kernel
theorem dX6_shares_223 : decode cX6_shares 223 = .ok (.i2l, 1) := by decide +kernel
theorem dX6_shares_224 : decode cX6_shares 224 = .ok (.ladd, 1) := by decide +kernel
theorem dX6_shares_225 : decode cX6_shares 225 = .ok (.lload 6, 2) := by decide +kernel
theorem dX6_shares_227 : decode cX6_shares 227 = .ok (.lload 4, 2) := by decide +kernel
theorem dX6_shares_229 : decode cX6_shares 229 = .ok (.lcmp, 1) := by decide +kernel
theorem dX6_shares_230 : decode cX6_shares 230 = .ok (.ifCond .ne 9, 3) := by decide +kernel
theorem dX6_shares_233 : decode cX6_shares 233 = .ok (.ldc2_w 139, 3) := by decide +kernel
theorem dX6_shares_236 : decode cX6_shares 236 = .ok (.goto 6, 3) := by decide +kernel
theorem dX6_shares_239 : decode cX6_shares 239 = .ok (.ldc2_w 141, 3) := by decide +kernel
theorem dX6_shares_242 : decode cX6_shares 242 = .ok (.invokevirtual 53, 3) := by decide +kernel
theorem dX6_shares_245 : decode cX6_shares 245 = .ok (.aload_n 0, 1) := by decide +kernel
theorem dX6_shares_246 : decode cX6_shares 246 = .ok (.iload_n 1, 1) := by decide +kernel
theorem dX6_shares_247 : decode cX6_shares 247 = .ok (.lload 6, 2) := by decide +kernel
theorem dX6_shares_249 : decode cX6_shares 249 = .ok (.invokevirtual 143, 3) := by decide +kernel
theorem dX6_shares_252 : decode cX6_shares 252 = .ok (.iinc 1 1, 3) := by decide +kernel
theorem dX6_shares_255 : decode cX6_shares 255 = .ok (.goto (-129), 3) := by decide +kernel
theorem dX6_shares_258 : decode cX6_shares 258 = .ok (.aload_n 0, 1) := by decide +kernel
theorem dX6_shares_259 : decode cX6_shares 259 = .ok (.getfield 7, 3) := by decide +kernel
theorem dX6_shares_262 : decode cX6_shares 262 = .ok (.bipush 8, 2) := by decide +kernel
theorem dX6_shares_264 : decode cX6_shares 264 = .ok (.laload, 1) := by decide +kernel
theorem dX6_shares_265 : decode cX6_shares 265 = .ok (.lconst 0, 1) := by decide +kernel
theorem dX6_shares_266 : decode cX6_shares 266 = .ok (.lcmp, 1) := by decide +kernel
theorem dX6_shares_267 : decode cX6_shares 267 = .ok (.ifCond .ne 7, 3) := by decide +kernel
theorem dX6_shares_270 : decode cX6_shares 270 = .ok (.iconst 1, 1) := by decide +kernel
theorem dX6_shares_271 : decode cX6_shares 271 = .ok (.goto 4, 3) := by decide +kernel
theorem dX6_shares_274 : decode cX6_shares 274 = .ok (.iconst 0, 1) := by decide +kernel
theorem dX6_shares_275 : decode cX6_shares 275 = .ok (.ireturn, 1) := by decide +kernel
set_option maxRecDepth 20000 in
theorem ggX6_product_X6_other : GoodIn wsX6_product wsX6_other := goodIn_r _ [4] (by decide +kernel) (by decide +kernel)
set_option maxRecDepth 20000 in
theorem gX6_product_X6_other : GoodIn wsX6_product (va_wsS RX6 111 yX6_other wsX6_other) := goodIn_app (goodIn_of _ (by decide +kernel)) ggX6_product_X6_other
theorem dX6_product_0 : decode cX6_product 0 = .ok (.aload_n 0, 1) := by decide +kernel
theorem dX6_product_1 : decode cX6_product 1 = .ok (.iload_n 2, 1) := by decide +kernel
theorem dX6_product_2 : decode cX6_product 2 = .ok (.iconst 1, 1) := by decide +kernel
theorem dX6_product_3 : decode cX6_product 3 = .ok (.invokestatic 111, 3) := by decide +kernel
theorem dX6_product_6 : decode cX6_product 6 = .ok (.laload, 1) := by decide +kernel
theorem dX6_product_7 : decode cX6_product 7 = .ok (.aload_n 1, 1) := by decide +kernel
theorem dX6_product_8 : decode cX6_product 8 = .ok (.iload_n 2, 1) := by decide +kernel
theorem dX6_product_9 : decode cX6_product 9 = .ok (.iconst 2, 1) := by decide +kernel
theorem dX6_product_10 : decode cX6_product 10 = .ok (.invokestatic 111, 3) := by decide +kernel
theorem dX6_product_13 : decode cX6_product 13 = .ok (.laload, 1) := by decide +kernel
theorem dX6_product_14 : decode cX6_product 14 = .ok (.lmul, 1) := by decide +kernel
theorem dX6_product_15 : decode cX6_product 15 = .ok (.aload_n 0, 1) := by decide +kernel
theorem dX6_product_16 : decode cX6_product 16 = .ok (.iload_n 2, 1) := by decide +kernel
theorem dX6_product_17 : decode cX6_product 17 = .ok (.iconst 2, 1) := by decide +kernel
theorem dX6_product_18 : decode cX6_product 18 = .ok (.invokestatic 111, 3) := by decide +kernel
theorem dX6_product_21 : decode cX6_product 21 = .ok (.laload, 1) := by decide +kernel
theorem dX6_product_22 : decode cX6_product 22 = .ok (.aload_n 1, 1) := by decide +kernel
theorem dX6_product_23 : decode cX6_product 23 = .ok (.iload_n 2, 1) := by decide +kernel
theorem dX6_product_24 : decode cX6_product 24 = .ok (.iconst 1, 1) := by decide +kernel
theorem dX6_product_25 : decode cX6_product 25 = .ok (.invokestatic 111, 3) := by decide +kernel
theorem dX6_product_28 : decode cX6_product 28 = .ok (.laload, 1) := by decide +kernel
theorem dX6_product_29 : decode cX6_product 29 = .ok (.lmul, 1) := by decide +kernel
theorem dX6_product_30 : decode cX6_product 30 = .ok (.lsub, 1) := by decide +kernel
theorem dX6_product_31 : decode cX6_product 31 = .ok (.lreturn, 1) := by decide +kernel
set_option maxRecDepth 20000 in
theorem ggX6_drops_X6_axisAt : GoodIn wsX6_drops wsX6_axisAt := goodIn_r _ [10] (by decide +kernel) (by decide +kernel)
set_option maxRecDepth 20000 in
theorem gX6_drops_X6_axisAt : GoodIn wsX6_drops (va_wsS RX6 45 yX6_axisAt wsX6_axisAt) := goodIn_app (goodIn_of _ (by decide +kernel)) ggX6_drops_X6_axisAt
set_option maxRecDepth 20000 in
theorem ggX6_drops_X6_wheelAt : GoodIn wsX6_drops wsX6_wheelAt := goodIn_r _ [13] (by decide +kernel) (by decide +kernel)
set_option maxRecDepth 20000 in
theorem gX6_drops_X6_wheelAt : GoodIn wsX6_drops (va_wsS RX6 71 yX6_wheelAt wsX6_wheelAt) := goodIn_app (goodIn_of _ (by decide +kernel)) ggX6_drops_X6_wheelAt
set_option maxRecDepth 20000 in
theorem ggX6_drops_X6_product : GoodIn wsX6_drops wsX6_product := goodIn_r _ [16, 17, 18, 9, 19] (by decide +kernel) (by decide +kernel)
set_option maxRecDepth 20000 in
theorem gX6_drops_X6_product : GoodIn wsX6_drops (va_wsS RX6 146 yX6_product wsX6_product) := goodIn_app (goodIn_of _ (by decide +kernel)) ggX6_drops_X6_product
set_option maxRecDepth 20000 in
theorem ggX6_drops_X6_div : GoodIn wsX6_drops wsX6_div := goodIn_r _ [22] (by decide +kernel) (by decide +kernel)
set_option maxRecDepth 20000 in
theorem gX6_drops_X6_div : GoodIn wsX6_drops (va_wsS RX6 63 yX6_div wsX6_div) := goodIn_app (goodIn_of _ (by decide +kernel)) ggX6_drops_X6_div
set_option maxRecDepth 20000 in
theorem ggX6_drops_X6_held : GoodIn wsX6_drops wsX6_held := goodIn_r _ [25] (by decide +kernel) (by decide +kernel)
set_option maxRecDepth 20000 in
theorem gX6_drops_X6_held : GoodIn wsX6_drops (va_wsS RX6 130 yX6_held wsX6_held) := goodIn_app (goodIn_of _ (by decide +kernel)) ggX6_drops_X6_held
set_option maxRecDepth 20000 in
theorem ggX6_drops_X6_pushes : GoodIn wsX6_drops wsX6_pushes := goodIn_r _ [29, 2, 7, 8, 9, 10, 30, 31, 32, 33, 34, 35, 36, 37, 38, 39, 40] (by decide +kernel) (by decide +kernel)
set_option maxRecDepth 20000 in
theorem gX6_drops_X6_pushes : GoodIn wsX6_drops (wsV RX6 100 RX6 yX6_pushes wsX6_pushes) := goodIn_app (goodIn_of _ (by decide +kernel)) ggX6_drops_X6_pushes
theorem dX6_drops_0 : decode cX6_drops 0 = .ok (.iconst 0, 1) := by decide +kernel
theorem dX6_drops_1 : decode cX6_drops 1 = .ok (.istore_n 1, 1) := by decide +kernel
theorem dX6_drops_2 : decode cX6_drops 2 = .ok (.iload_n 1, 1) := by decide +kernel
theorem dX6_drops_3 : decode cX6_drops 3 = .ok (.iconst 3, 1) := by decide +kernel
theorem dX6_drops_4 : decode cX6_drops 4 = .ok (.if_icmp .ge 83, 3) := by decide +kernel
theorem dX6_drops_7 : decode cX6_drops 7 = .ok (.aload_n 0, 1) := by decide +kernel
theorem dX6_drops_8 : decode cX6_drops 8 = .ok (.getfield 31, 3) := by decide +kernel
theorem dX6_drops_11 : decode cX6_drops 11 = .ok (.iload_n 1, 1) := by decide +kernel
theorem dX6_drops_12 : decode cX6_drops 12 = .ok (.aload_n 0, 1) := by decide +kernel
theorem dX6_drops_13 : decode cX6_drops 13 = .ok (.getfield 7, 3) := by decide +kernel
theorem dX6_drops_16 : decode cX6_drops 16 = .ok (.iload_n 1, 1) := by decide +kernel
theorem dX6_drops_17 : decode cX6_drops 17 = .ok (.iconst 4, 1) := by decide +kernel
theorem dX6_drops_18 : decode cX6_drops 18 = .ok (.invokestatic 45, 3) := by decide +kernel
theorem dX6_drops_21 : decode cX6_drops 21 = .ok (.laload, 1) := by decide +kernel
theorem dX6_drops_22 : decode cX6_drops 22 = .ok (.lastore, 1) := by decide +kernel
theorem dX6_drops_23 : decode cX6_drops 23 = .ok (.aload_n 0, 1) := by decide +kernel
theorem dX6_drops_24 : decode cX6_drops 24 = .ok (.getfield 28, 3) := by decide +kernel
theorem dX6_drops_27 : decode cX6_drops 27 = .ok (.iload_n 1, 1) := by decide +kernel
theorem dX6_drops_28 : decode cX6_drops 28 = .ok (.lconst 0, 1) := by decide +kernel
theorem dX6_drops_29 : decode cX6_drops 29 = .ok (.lastore, 1) := by decide +kernel
theorem dX6_drops_30 : decode cX6_drops 30 = .ok (.iconst 0, 1) := by decide +kernel
theorem dX6_drops_31 : decode cX6_drops 31 = .ok (.istore_n 2, 1) := by decide +kernel
theorem dX6_drops_32 : decode cX6_drops 32 = .ok (.iload_n 2, 1) := by decide +kernel
theorem dX6_drops_33 : decode cX6_drops 33 = .ok (.i2l, 1) := by decide +kernel
theorem dX6_drops_34 : decode cX6_drops 34 = .ok (.aload_n 0, 1) := by decide +kernel
theorem dX6_drops_35 : decode cX6_drops 35 = .ok (.getfield 7, 3) := by decide +kernel
theorem dX6_drops_38 : decode cX6_drops 38 = .ok (.bipush 6, 2) := by decide +kernel
theorem dX6_drops_40 : decode cX6_drops 40 = .ok (.laload, 1) := by decide +kernel
theorem dX6_drops_41 : decode cX6_drops 41 = .ok (.lcmp, 1) := by decide +kernel
theorem dX6_drops_42 : decode cX6_drops 42 = .ok (.ifCond .ge 39, 3) := by decide +kernel
theorem dX6_drops_45 : decode cX6_drops 45 = .ok (.aload_n 0, 1) := by decide +kernel
theorem dX6_drops_46 : decode cX6_drops 46 = .ok (.getfield 28, 3) := by decide +kernel
theorem dX6_drops_49 : decode cX6_drops 49 = .ok (.iload_n 1, 1) := by decide +kernel
theorem dX6_drops_50 : decode cX6_drops 50 = .ok (.dup2, 1) := by decide +kernel
theorem dX6_drops_51 : decode cX6_drops 51 = .ok (.laload, 1) := by decide +kernel
theorem dX6_drops_52 : decode cX6_drops 52 = .ok (.aload_n 0, 1) := by decide +kernel
theorem dX6_drops_53 : decode cX6_drops 53 = .ok (.getfield 7, 3) := by decide +kernel
theorem dX6_drops_56 : decode cX6_drops 56 = .ok (.iload_n 2, 1) := by decide +kernel
theorem dX6_drops_57 : decode cX6_drops 57 = .ok (.iload_n 1, 1) := by decide +kernel
theorem dX6_drops_58 : decode cX6_drops 58 = .ok (.invokestatic 71, 3) := by decide +kernel
theorem dX6_drops_61 : decode cX6_drops 61 = .ok (.laload, 1) := by decide +kernel
theorem dX6_drops_62 : decode cX6_drops 62 = .ok (.aload_n 0, 1) := by decide +kernel
theorem dX6_drops_63 : decode cX6_drops 63 = .ok (.getfield 7, 3) := by decide +kernel
theorem dX6_drops_66 : decode cX6_drops 66 = .ok (.iload_n 2, 1) := by decide +kernel
theorem dX6_drops_67 : decode cX6_drops 67 = .ok (.iconst 3, 1) := by decide +kernel
theorem dX6_drops_68 : decode cX6_drops 68 = .ok (.invokestatic 71, 3) := by decide +kernel
theorem dX6_drops_71 : decode cX6_drops 71 = .ok (.laload, 1) := by decide +kernel
theorem dX6_drops_72 : decode cX6_drops 72 = .ok (.lmul, 1) := by decide +kernel
theorem dX6_drops_73 : decode cX6_drops 73 = .ok (.ladd, 1) := by decide +kernel
theorem dX6_drops_74 : decode cX6_drops 74 = .ok (.lastore, 1) := by decide +kernel
theorem dX6_drops_75 : decode cX6_drops 75 = .ok (.iinc 2 1, 3) := by decide +kernel
theorem dX6_drops_78 : decode cX6_drops 78 = .ok (.goto (-46), 3) := by decide +kernel
theorem dX6_drops_81 : decode cX6_drops 81 = .ok (.iinc 1 1, 3) := by decide +kernel
theorem dX6_drops_84 : decode cX6_drops 84 = .ok (.goto (-82), 3) := by decide +kernel
theorem dX6_drops_87 : decode cX6_drops 87 = .ok (.iconst 0, 1) := by decide +kernel
theorem dX6_drops_88 : decode cX6_drops 88 = .ok (.istore_n 1, 1) := by decide +kernel
theorem dX6_drops_89 : decode cX6_drops 89 = .ok (.iload_n 1, 1) := by decide +kernel
theorem dX6_drops_90 : decode cX6_drops 90 = .ok (.iconst 3, 1) := by decide +kernel
theorem dX6_drops_91 : decode cX6_drops 91 = .ok (.if_icmp .ge 42, 3) := by decide +kernel
theorem dX6_drops_94 : decode cX6_drops 94 = .ok (.aload_n 0, 1) := by decide +kernel
theorem dX6_drops_95 : decode cX6_drops 95 = .ok (.getfield 34, 3) := by decide +kernel
theorem dX6_drops_98 : decode cX6_drops 98 = .ok (.iload_n 1, 1) := by decide +kernel
theorem dX6_drops_99 : decode cX6_drops 99 = .ok (.aload_n 0, 1) := by decide +kernel
theorem dX6_drops_100 : decode cX6_drops 100 = .ok (.getfield 28, 3) := by decide +kernel
theorem dX6_drops_103 : decode cX6_drops 103 = .ok (.aload_n 0, 1) := by decide +kernel
theorem dX6_drops_104 : decode cX6_drops 104 = .ok (.getfield 31, 3) := by decide +kernel
theorem dX6_drops_107 : decode cX6_drops 107 = .ok (.iload_n 1, 1) := by decide +kernel
theorem dX6_drops_108 : decode cX6_drops 108 = .ok (.invokestatic 146, 3) := by decide +kernel
theorem dX6_drops_111 : decode cX6_drops 111 = .ok (.ldc2_w 150, 3) := by decide +kernel
theorem dX6_drops_114 : decode cX6_drops 114 = .ok (.invokestatic 63, 3) := by decide +kernel
theorem dX6_drops_117 : decode cX6_drops 117 = .ok (.aload_n 0, 1) := by decide +kernel
theorem dX6_drops_118 : decode cX6_drops 118 = .ok (.getfield 7, 3) := by decide +kernel
theorem dX6_drops_121 : decode cX6_drops 121 = .ok (.iconst 4, 1) := by decide +kernel
theorem dX6_drops_122 : decode cX6_drops 122 = .ok (.laload, 1) := by decide +kernel
theorem dX6_drops_123 : decode cX6_drops 123 = .ok (.invokestatic 130, 3) := by decide +kernel
theorem dX6_drops_126 : decode cX6_drops 126 = .ok (.lastore, 1) := by decide +kernel
theorem dX6_drops_127 : decode cX6_drops 127 = .ok (.iinc 1 1, 3) := by decide +kernel
theorem dX6_drops_130 : decode cX6_drops 130 = .ok (.goto (-41), 3) := by decide +kernel
theorem dX6_drops_133 : decode cX6_drops 133 = .ok (.iconst 0, 1) := by decide +kernel
theorem dX6_drops_134 : decode cX6_drops 134 = .ok (.istore_n 1, 1) := by decide +kernel
theorem dX6_drops_135 : decode cX6_drops 135 = .ok (.iload_n 1, 1) := by decide +kernel
theorem dX6_drops_136 : decode cX6_drops 136 = .ok (.iconst 3, 1) := by decide +kernel
theorem dX6_drops_137 : decode cX6_drops 137 = .ok (.if_icmp .ge 43, 3) := by decide +kernel
theorem dX6_drops_140 : decode cX6_drops 140 = .ok (.aload_n 0, 1) := by decide +kernel
theorem dX6_drops_141 : decode cX6_drops 141 = .ok (.iload_n 1, 1) := by decide +kernel
theorem dX6_drops_142 : decode cX6_drops 142 = .ok (.aload_n 0, 1) := by decide +kernel
theorem dX6_drops_143 : decode cX6_drops 143 = .ok (.getfield 34, 3) := by decide +kernel
theorem dX6_drops_146 : decode cX6_drops 146 = .ok (.aload_n 0, 1) := by decide +kernel
theorem dX6_drops_147 : decode cX6_drops 147 = .ok (.getfield 31, 3) := by decide +kernel
theorem dX6_drops_150 : decode cX6_drops 150 = .ok (.iload_n 1, 1) := by decide +kernel
theorem dX6_drops_151 : decode cX6_drops 151 = .ok (.invokestatic 146, 3) := by decide +kernel
theorem dX6_drops_154 : decode cX6_drops 154 = .ok (.ldc2_w 49, 3) := by decide +kernel
theorem dX6_drops_157 : decode cX6_drops 157 = .ok (.invokestatic 63, 3) := by decide +kernel
theorem dX6_drops_160 : decode cX6_drops 160 = .ok (.aload_n 0, 1) := by decide +kernel
theorem dX6_drops_161 : decode cX6_drops 161 = .ok (.getfield 7, 3) := by decide +kernel
theorem dX6_drops_164 : decode cX6_drops 164 = .ok (.iload_n 1, 1) := by decide +kernel
theorem dX6_drops_165 : decode cX6_drops 165 = .ok (.iconst 5, 1) := by decide +kernel
theorem dX6_drops_166 : decode cX6_drops 166 = .ok (.invokestatic 45, 3) := by decide +kernel
theorem dX6_drops_169 : decode cX6_drops 169 = .ok (.laload, 1) := by decide +kernel
theorem dX6_drops_170 : decode cX6_drops 170 = .ok (.ladd, 1) := by decide +kernel
theorem dX6_drops_171 : decode cX6_drops 171 = .ok (.invokevirtual 100, 3) := by decide +kernel
theorem dX6_drops_174 : decode cX6_drops 174 = .ok (.iinc 1 1, 3) := by decide +kernel
theorem dX6_drops_177 : decode cX6_drops 177 = .ok (.goto (-42), 3) := by decide +kernel
theorem dX6_drops_180 : decode cX6_drops 180 = .ok (.return_, 1) := by decide +kernel
set_option maxRecDepth 20000 in
theorem ggX6_passes_X6_axisAt : GoodIn wsX6_passes wsX6_axisAt := goodIn_r _ [7] (by decide +kernel) (by decide +kernel)
set_option maxRecDepth 20000 in
theorem gX6_passes_X6_axisAt : GoodIn wsX6_passes (va_wsS RX6 45 yX6_axisAt wsX6_axisAt) := goodIn_app (goodIn_of _ (by decide +kernel)) ggX6_passes_X6_axisAt
set_option maxRecDepth 20000 in
theorem ggX6_passes_X6_div : GoodIn wsX6_passes wsX6_div := goodIn_r _ [10] (by decide +kernel) (by decide +kernel)
set_option maxRecDepth 20000 in
theorem gX6_passes_X6_div : GoodIn wsX6_passes (va_wsS RX6 63 yX6_div wsX6_div) := goodIn_app (goodIn_of _ (by decide +kernel)) ggX6_passes_X6_div
set_option maxRecDepth 20000 in
theorem ggX6_passes_X6_held : GoodIn wsX6_passes wsX6_held := goodIn_r _ [13] (by decide +kernel) (by decide +kernel)
set_option maxRecDepth 20000 in
theorem gX6_passes_X6_held : GoodIn wsX6_passes (va_wsS RX6 130 yX6_held wsX6_held) := goodIn_app (goodIn_of _ (by decide +kernel)) ggX6_passes_X6_held
set_option maxRecDepth 20000 in
theorem ggX6_passes_X6_rate : GoodIn wsX6_passes wsX6_rate := goodIn_r _ [17, 1, 4, 5, 6, 7, 8, 9, 10, 80, 81, 82, 83, 84, 85, 86, 87, 88, 89, 90] (by decide +kernel) (by decide +kernel)
set_option maxRecDepth 20000 in
theorem gX6_passes_X6_rate : GoodIn wsX6_passes (wsV RX6 104 RX6 yX6_rate wsX6_rate) := goodIn_app (goodIn_of _ (by decide +kernel)) ggX6_passes_X6_rate
set_option maxRecDepth 20000 in
theorem ggX6_passes_X6_shares : GoodIn wsX6_passes wsX6_shares := goodIn_r _ [21, 22, 1, 23, 24, 25, 3, 26, 27, 28, 29, 30, 31, 32, 6, 33, 34, 35, 36, 37, 38, 39, 40, 41, 42, 43, 44, 45, 46, 47, 48, 49, 50, 51, 52, 53, 54, 55, 56, 8, 9, 10, 11, 12, 13, 57, 58, 59, 60, 61, 62, 63, 64, 4, 5, 7, 80, 81, 82, 83, 84, 85, 86, 87, 88, 89, 90] (by decide +kernel) (by decide +kernel)
set_option maxRecDepth 20000 in
theorem gX6_passes_X6_shares : GoodIn wsX6_passes (wsV RX6 152 RX6 yX6_shares wsX6_shares) := goodIn_app (goodIn_of _ (by decide +kernel)) ggX6_passes_X6_shares
set_option maxRecDepth 20000 in
theorem ggX6_passes_X6_drops : GoodIn wsX6_passes wsX6_drops := goodIn_r _ [68, 69, 1, 70, 71, 72, 2, 4, 5, 6, 7, 40, 41, 42, 73, 74, 75, 43, 44, 45, 8, 9, 10, 11, 12, 13, 76, 77, 78, 79, 80, 81, 82, 83, 84, 85, 86, 87, 88, 89, 90] (by decide +kernel) (by decide +kernel)
set_option maxRecDepth 20000 in
theorem gX6_passes_X6_drops : GoodIn wsX6_passes (wsV RX6 156 RX6 yX6_drops wsX6_drops) := goodIn_app (goodIn_of _ (by decide +kernel)) ggX6_passes_X6_drops
theorem dX6_passes_0 : decode cX6_passes 0 = .ok (.aload_n 0, 1) := by decide +kernel
theorem dX6_passes_1 : decode cX6_passes 1 = .ok (.getfield 7, 3) := by decide +kernel
theorem dX6_passes_4 : decode cX6_passes 4 = .ok (.iconst 5, 1) := by decide +kernel
theorem dX6_passes_5 : decode cX6_passes 5 = .ok (.dup2, 1) := by decide +kernel
theorem dX6_passes_6 : decode cX6_passes 6 = .ok (.laload, 1) := by decide +kernel
theorem dX6_passes_7 : decode cX6_passes 7 = .ok (.lconst 1, 1) := by decide +kernel
theorem dX6_passes_8 : decode cX6_passes 8 = .ok (.ladd, 1) := by decide +kernel
theorem dX6_passes_9 : decode cX6_passes 9 = .ok (.lastore, 1) := by decide +kernel
theorem dX6_passes_10 : decode cX6_passes 10 = .ok (.iconst 0, 1) := by decide +kernel
theorem dX6_passes_11 : decode cX6_passes 11 = .ok (.istore_n 1, 1) := by decide +kernel
theorem dX6_passes_12 : decode cX6_passes 12 = .ok (.iload_n 1, 1) := by decide +kernel
theorem dX6_passes_13 : decode cX6_passes 13 = .ok (.iconst 3, 1) := by decide +kernel
theorem dX6_passes_14 : decode cX6_passes 14 = .ok (.if_icmp .ge 99, 3) := by decide +kernel
theorem dX6_passes_17 : decode cX6_passes 17 = .ok (.aload_n 0, 1) := by decide +kernel
theorem dX6_passes_18 : decode cX6_passes 18 = .ok (.getfield 7, 3) := by decide +kernel
theorem dX6_passes_21 : decode cX6_passes 21 = .ok (.iconst 0, 1) := by decide +kernel
theorem dX6_passes_22 : decode cX6_passes 22 = .ok (.laload, 1) := by decide +kernel
theorem dX6_passes_23 : decode cX6_passes 23 = .ok (.aload_n 0, 1) := by decide +kernel
theorem dX6_passes_24 : decode cX6_passes 24 = .ok (.getfield 7, 3) := by decide +kernel
theorem dX6_passes_27 : decode cX6_passes 27 = .ok (.iload_n 1, 1) := by decide +kernel
theorem dX6_passes_28 : decode cX6_passes 28 = .ok (.iconst 3, 1) := by decide +kernel
theorem dX6_passes_29 : decode cX6_passes 29 = .ok (.invokestatic 45, 3) := by decide +kernel
theorem dX6_passes_32 : decode cX6_passes 32 = .ok (.laload, 1) := by decide +kernel
theorem dX6_passes_33 : decode cX6_passes 33 = .ok (.aload_n 0, 1) := by decide +kernel
theorem dX6_passes_34 : decode cX6_passes 34 = .ok (.getfield 7, 3) := by decide +kernel
theorem dX6_passes_37 : decode cX6_passes 37 = .ok (.iload_n 1, 1) := by decide +kernel
theorem dX6_passes_38 : decode cX6_passes 38 = .ok (.iconst 0, 1) := by decide +kernel
theorem dX6_passes_39 : decode cX6_passes 39 = .ok (.invokestatic 45, 3) := by decide +kernel
theorem dX6_passes_42 : decode cX6_passes 42 = .ok (.laload, 1) := by decide +kernel
theorem dX6_passes_43 : decode cX6_passes 43 = .ok (.lsub, 1) := by decide +kernel
theorem dX6_passes_44 : decode cX6_passes 44 = .ok (.lmul, 1) := by decide +kernel
theorem dX6_passes_45 : decode cX6_passes 45 = .ok (.ldc2_w 49, 3) := by decide +kernel
theorem dX6_passes_48 : decode cX6_passes 48 = .ok (.invokestatic 63, 3) := by decide +kernel
theorem dX6_passes_51 : decode cX6_passes 51 = .ok (.aload_n 0, 1) := by decide +kernel
theorem dX6_passes_52 : decode cX6_passes 52 = .ok (.getfield 7, 3) := by decide +kernel
theorem dX6_passes_55 : decode cX6_passes 55 = .ok (.iconst 2, 1) := by decide +kernel
theorem dX6_passes_56 : decode cX6_passes 56 = .ok (.laload, 1) := by decide +kernel
theorem dX6_passes_57 : decode cX6_passes 57 = .ok (.invokestatic 130, 3) := by decide +kernel
theorem dX6_passes_60 : decode cX6_passes 60 = .ok (.lstore_n 2, 1) := by decide +kernel
theorem dX6_passes_61 : decode cX6_passes 61 = .ok (.aload_n 0, 1) := by decide +kernel
theorem dX6_passes_62 : decode cX6_passes 62 = .ok (.getfield 25, 3) := by decide +kernel
theorem dX6_passes_65 : decode cX6_passes 65 = .ok (.iload_n 1, 1) := by decide +kernel
theorem dX6_passes_66 : decode cX6_passes 66 = .ok (.aload_n 0, 1) := by decide +kernel
theorem dX6_passes_67 : decode cX6_passes 67 = .ok (.getfield 7, 3) := by decide +kernel
theorem dX6_passes_70 : decode cX6_passes 70 = .ok (.iconst 1, 1) := by decide +kernel
theorem dX6_passes_71 : decode cX6_passes 71 = .ok (.laload, 1) := by decide +kernel
theorem dX6_passes_72 : decode cX6_passes 72 = .ok (.lload_n 2, 1) := by decide +kernel
theorem dX6_passes_73 : decode cX6_passes 73 = .ok (.aload_n 0, 1) := by decide +kernel
theorem dX6_passes_74 : decode cX6_passes 74 = .ok (.iload_n 1, 1) := by decide +kernel
theorem dX6_passes_75 : decode cX6_passes 75 = .ok (.invokevirtual 104, 3) := by decide +kernel
theorem dX6_passes_78 : decode cX6_passes 78 = .ok (.lsub, 1) := by decide +kernel
theorem dX6_passes_79 : decode cX6_passes 79 = .ok (.lmul, 1) := by decide +kernel
theorem dX6_passes_80 : decode cX6_passes 80 = .ok (.aload_n 0, 1) := by decide +kernel
theorem dX6_passes_81 : decode cX6_passes 81 = .ok (.getfield 7, 3) := by decide +kernel
theorem dX6_passes_84 : decode cX6_passes 84 = .ok (.iconst 3, 1) := by decide +kernel
theorem dX6_passes_85 : decode cX6_passes 85 = .ok (.laload, 1) := by decide +kernel
theorem dX6_passes_86 : decode cX6_passes 86 = .ok (.invokestatic 130, 3) := by decide +kernel
theorem dX6_passes_89 : decode cX6_passes 89 = .ok (.lastore, 1) := by decide +kernel
theorem dX6_passes_90 : decode cX6_passes 90 = .ok (.aload_n 0, 1) := by decide +kernel
theorem dX6_passes_91 : decode cX6_passes 91 = .ok (.getfield 7, 3) := by decide +kernel
theorem dX6_passes_94 : decode cX6_passes 94 = .ok (.iload_n 1, 1) := by decide +kernel
theorem dX6_passes_95 : decode cX6_passes 95 = .ok (.bipush 7, 2) := by decide +kernel
theorem dX6_passes_97 : decode cX6_passes 97 = .ok (.invokestatic 45, 3) := by decide +kernel
theorem dX6_passes_100 : decode cX6_passes 100 = .ok (.aload_n 0, 1) := by decide +kernel
theorem dX6_passes_101 : decode cX6_passes 101 = .ok (.getfield 25, 3) := by decide +kernel
theorem dX6_passes_104 : decode cX6_passes 104 = .ok (.iload_n 1, 1) := by decide +kernel
theorem dX6_passes_105 : decode cX6_passes 105 = .ok (.laload, 1) := by decide +kernel
theorem dX6_passes_106 : decode cX6_passes 106 = .ok (.lastore, 1) := by decide +kernel
theorem dX6_passes_107 : decode cX6_passes 107 = .ok (.iinc 1 1, 3) := by decide +kernel
theorem dX6_passes_110 : decode cX6_passes 110 = .ok (.goto (-98), 3) := by decide +kernel
theorem dX6_passes_113 : decode cX6_passes 113 = .ok (.aload_n 0, 1) := by decide +kernel
theorem dX6_passes_114 : decode cX6_passes 114 = .ok (.invokevirtual 152, 3) := by decide +kernel
theorem dX6_passes_117 : decode cX6_passes 117 = .ok (.istore_n 1, 1) := by decide +kernel
theorem dX6_passes_118 : decode cX6_passes 118 = .ok (.aload_n 0, 1) := by decide +kernel
theorem dX6_passes_119 : decode cX6_passes 119 = .ok (.invokevirtual 156, 3) := by decide +kernel
theorem dX6_passes_122 : decode cX6_passes 122 = .ok (.iconst 0, 1) := by decide +kernel
theorem dX6_passes_123 : decode cX6_passes 123 = .ok (.istore_n 2, 1) := by decide +kernel
theorem dX6_passes_124 : decode cX6_passes 124 = .ok (.iload_n 2, 1) := by decide +kernel
theorem dX6_passes_125 : decode cX6_passes 125 = .ok (.iconst 3, 1) := by decide +kernel
theorem dX6_passes_126 : decode cX6_passes 126 = .ok (.if_icmp .ge 27, 3) := by decide +kernel
theorem dX6_passes_129 : decode cX6_passes 129 = .ok (.aload_n 0, 1) := by decide +kernel
theorem dX6_passes_130 : decode cX6_passes 130 = .ok (.getfield 7, 3) := by decide +kernel
theorem dX6_passes_133 : decode cX6_passes 133 = .ok (.iload_n 2, 1) := by decide +kernel
theorem dX6_passes_134 : decode cX6_passes 134 = .ok (.iconst 0, 1) := by decide +kernel
theorem dX6_passes_135 : decode cX6_passes 135 = .ok (.invokestatic 45, 3) := by decide +kernel
theorem dX6_passes_138 : decode cX6_passes 138 = .ok (.dup2, 1) := by decide +kernel
theorem dX6_passes_139 : decode cX6_passes 139 = .ok (.laload, 1) := by decide +kernel
theorem dX6_passes_140 : decode cX6_passes 140 = .ok (.aload_n 0, 1) := by decide +kernel
theorem dX6_passes_141 : decode cX6_passes 141 = .ok (.iload_n 2, 1) := by decide +kernel
theorem dX6_passes_142 : decode cX6_passes 142 = .ok (.invokevirtual 104, 3) := by decide +kernel
theorem dX6_passes_145 : decode cX6_passes 145 = .ok (.ladd, 1) := by decide +kernel
theorem dX6_passes_146 : decode cX6_passes 146 = .ok (.lastore, 1) := by decide +kernel
theorem dX6_passes_147 : decode cX6_passes 147 = .ok (.iinc 2 1, 3) := by decide +kernel
theorem dX6_passes_150 : decode cX6_passes 150 = .ok (.goto (-26), 3) := by decide +kernel
theorem dX6_passes_153 : decode cX6_passes 153 = .ok (.iload_n 1, 1) := by decide +kernel
theorem dX6_passes_154 : decode cX6_passes 154 = .ok (.ireturn, 1) := by decide +kernel
set_option maxRecDepth 20000 in
theorem ggX6_tick_X6_in : GoodIn wsX6_tick wsX6_in := goodIn_r _ [8] (by decide +kernel) (by decide +kernel)
set_option maxRecDepth 20000 in
theorem gX6_tick_X6_in : GoodIn wsX6_tick (va_wsS RX6 67 yX6_in wsX6_in) := goodIn_app (goodIn_of _ (by decide +kernel)) ggX6_tick_X6_in
set_option maxRecDepth 20000 in
theorem ggX6_tick_X6_act : GoodIn wsX6_tick wsX6_act := goodIn_r _ [12, 13, 14, 2, 96, 97, 98, 99, 100, 101, 102, 103, 104, 105, 106] (by decide +kernel) (by decide +kernel)
set_option maxRecDepth 20000 in
theorem gX6_tick_X6_act : GoodIn wsX6_tick (wsV RX6 84 RX6 yX6_act wsX6_act) := goodIn_app (goodIn_of _ (by decide +kernel)) ggX6_tick_X6_act
set_option maxRecDepth 20000 in
theorem ggX6_tick_X6_passes : GoodIn wsX6_tick wsX6_passes := goodIn_r _ [18, 2, 19, 20, 21, 22, 7, 23, 24, 25, 26, 27, 28, 29, 30, 31, 32, 33, 34, 35, 36, 37, 38, 39, 40, 41, 42, 43, 44, 45, 46, 47, 48, 49, 50, 51, 52, 53, 54, 55, 56, 57, 58, 59, 60, 61, 62, 63, 64, 65, 66, 67, 68, 69, 70, 71, 72, 73, 74, 75, 76, 77, 78, 79, 80, 81, 82, 83, 84, 85, 86, 87, 88, 89, 90, 91, 92, 93, 94, 95, 96, 97, 98, 99, 100, 101, 102, 103, 104, 105, 106] (by decide +kernel) (by decide +kernel)
set_option maxRecDepth 20000 in
theorem gX6_tick_X6_passes : GoodIn wsX6_tick (wsV RX6 162 RX6 yX6_passes wsX6_passes) := goodIn_app (goodIn_of _ (by decide +kernel)) ggX6_tick_X6_passes
theorem dX6_tick_0 : decode cX6_tick 0 = .ok (.iload_n 1, 1) := by decide +kernel
theorem dX6_tick_1 : decode cX6_tick 1 = .ok (.iconst 1, 1) := by decide +kernel
theorem dX6_tick_2 : decode cX6_tick 2 = .ok (.sipush 200, 3) := by decide +kernel
theorem dX6_tick_5 : decode cX6_tick 5 = .ok (.invokestatic 67, 3) := by decide +kernel
theorem dX6_tick_8 : decode cX6_tick 8 = .ok (.ifCond .ne 6, 3) := by decide +kernel
theorem dX6_tick_11 : decode cX6_tick 11 = .ok (.ldc 80, 2) := by decide +kernel
theorem dX6_tick_13 : decode cX6_tick 13 = .ok (.ireturn, 1) := by decide +kernel
theorem dX6_tick_14 : decode cX6_tick 14 = .ok (.aload_n 0, 1) := by decide +kernel
theorem dX6_tick_15 : decode cX6_tick 15 = .ok (.getfield 7, 3) := by decide +kernel
theorem dX6_tick_18 : decode cX6_tick 18 = .ok (.iconst 5, 1) := by decide +kernel
theorem dX6_tick_19 : decode cX6_tick 19 = .ok (.laload, 1) := by decide +kernel
theorem dX6_tick_20 : decode cX6_tick 20 = .ok (.iload_n 1, 1) := by decide +kernel
theorem dX6_tick_21 : decode cX6_tick 21 = .ok (.i2l, 1) := by decide +kernel
theorem dX6_tick_22 : decode cX6_tick 22 = .ok (.ladd, 1) := by decide +kernel
theorem dX6_tick_23 : decode cX6_tick 23 = .ok (.ldc2_w 159, 3) := by decide +kernel
theorem dX6_tick_26 : decode cX6_tick 26 = .ok (.lcmp, 1) := by decide +kernel
theorem dX6_tick_27 : decode cX6_tick 27 = .ok (.ifCond .le 6, 3) := by decide +kernel
theorem dX6_tick_30 : decode cX6_tick 30 = .ok (.ldc 161, 2) := by decide +kernel
theorem dX6_tick_32 : decode cX6_tick 32 = .ok (.ireturn, 1) := by decide +kernel
theorem dX6_tick_33 : decode cX6_tick 33 = .ok (.aload_n 0, 1) := by decide +kernel
theorem dX6_tick_34 : decode cX6_tick 34 = .ok (.invokevirtual 84, 3) := by decide +kernel
theorem dX6_tick_37 : decode cX6_tick 37 = .ok (.iconst 0, 1) := by decide +kernel
theorem dX6_tick_38 : decode cX6_tick 38 = .ok (.istore_n 2, 1) := by decide +kernel
theorem dX6_tick_39 : decode cX6_tick 39 = .ok (.iconst 0, 1) := by decide +kernel
theorem dX6_tick_40 : decode cX6_tick 40 = .ok (.istore_n 3, 1) := by decide +kernel
theorem dX6_tick_41 : decode cX6_tick 41 = .ok (.iload_n 3, 1) := by decide +kernel
theorem dX6_tick_42 : decode cX6_tick 42 = .ok (.iload_n 1, 1) := by decide +kernel
theorem dX6_tick_43 : decode cX6_tick 43 = .ok (.if_icmp .ge 24, 3) := by decide +kernel
theorem dX6_tick_46 : decode cX6_tick 46 = .ok (.iload_n 2, 1) := by decide +kernel
theorem dX6_tick_47 : decode cX6_tick 47 = .ok (.aload_n 0, 1) := by decide +kernel
theorem dX6_tick_48 : decode cX6_tick 48 = .ok (.invokevirtual 162, 3) := by decide +kernel
theorem dX6_tick_51 : decode cX6_tick 51 = .ok (.ifCond .eq 7, 3) := by decide +kernel
theorem dX6_tick_54 : decode cX6_tick 54 = .ok (.iconst 1, 1) := by decide +kernel
theorem dX6_tick_55 : decode cX6_tick 55 = .ok (.goto 4, 3) := by decide +kernel
theorem dX6_tick_58 : decode cX6_tick 58 = .ok (.iconst 0, 1) := by decide +kernel
theorem dX6_tick_59 : decode cX6_tick 59 = .ok (.iadd, 1) := by decide +kernel
theorem dX6_tick_60 : decode cX6_tick 60 = .ok (.istore_n 2, 1) := by decide +kernel
theorem dX6_tick_61 : decode cX6_tick 61 = .ok (.iinc 3 1, 3) := by decide +kernel
theorem dX6_tick_64 : decode cX6_tick 64 = .ok (.goto (-23), 3) := by decide +kernel
theorem dX6_tick_67 : decode cX6_tick 67 = .ok (.iload_n 2, 1) := by decide +kernel
theorem dX6_tick_68 : decode cX6_tick 68 = .ok (.ireturn, 1) := by decide +kernel
theorem dX6_time_0 : decode cX6_time 0 = .ok (.aload_n 0, 1) := by decide +kernel
theorem dX6_time_1 : decode cX6_time 1 = .ok (.getfield 7, 3) := by decide +kernel
theorem dX6_time_4 : decode cX6_time 4 = .ok (.iconst 5, 1) := by decide +kernel
theorem dX6_time_5 : decode cX6_time 5 = .ok (.laload, 1) := by decide +kernel
theorem dX6_time_6 : decode cX6_time 6 = .ok (.l2i, 1) := by decide +kernel
theorem dX6_time_7 : decode cX6_time 7 = .ok (.ireturn, 1) := by decide +kernel
set_option maxRecDepth 20000 in
theorem ggX6_whole_X6_axisAt : GoodIn wsX6_whole wsX6_axisAt := goodIn_r _ [5] (by decide +kernel) (by decide +kernel)
set_option maxRecDepth 20000 in
theorem gX6_whole_X6_axisAt : GoodIn wsX6_whole (va_wsS RX6 45 yX6_axisAt wsX6_axisAt) := goodIn_app (goodIn_of _ (by decide +kernel)) ggX6_whole_X6_axisAt
set_option maxRecDepth 20000 in
theorem ggX6_whole_X6_wheelAt : GoodIn wsX6_whole wsX6_wheelAt := goodIn_r _ [8] (by decide +kernel) (by decide +kernel)
set_option maxRecDepth 20000 in
theorem gX6_whole_X6_wheelAt : GoodIn wsX6_whole (va_wsS RX6 71 yX6_wheelAt wsX6_wheelAt) := goodIn_app (goodIn_of _ (by decide +kernel)) ggX6_whole_X6_wheelAt
theorem dX6_whole_0 : decode cX6_whole 0 = .ok (.aload_n 0, 1) := by decide +kernel
theorem dX6_whole_1 : decode cX6_whole 1 = .ok (.getfield 7, 3) := by decide +kernel
theorem dX6_whole_4 : decode cX6_whole 4 = .ok (.iload_n 1, 1) := by decide +kernel
theorem dX6_whole_5 : decode cX6_whole 5 = .ok (.iconst 1, 1) := by decide +kernel
theorem dX6_whole_6 : decode cX6_whole 6 = .ok (.invokestatic 45, 3) := by decide +kernel
theorem dX6_whole_9 : decode cX6_whole 9 = .ok (.laload, 1) := by decide +kernel
theorem dX6_whole_10 : decode cX6_whole 10 = .ok (.lstore_n 2, 1) := by decide +kernel
theorem dX6_whole_11 : decode cX6_whole 11 = .ok (.iconst 0, 1) := by decide +kernel
theorem dX6_whole_12 : decode cX6_whole 12 = .ok (.istore 4, 2) := by decide +kernel
theorem dX6_whole_14 : decode cX6_whole 14 = .ok (.iload 4, 2) := by decide +kernel
theorem dX6_whole_16 : decode cX6_whole 16 = .ok (.i2l, 1) := by decide +kernel
theorem dX6_whole_17 : decode cX6_whole 17 = .ok (.aload_n 0, 1) := by decide +kernel
theorem dX6_whole_18 : decode cX6_whole 18 = .ok (.getfield 7, 3) := by decide +kernel
theorem dX6_whole_21 : decode cX6_whole 21 = .ok (.bipush 6, 2) := by decide +kernel
theorem dX6_whole_23 : decode cX6_whole 23 = .ok (.laload, 1) := by decide +kernel
theorem dX6_whole_24 : decode cX6_whole 24 = .ok (.lcmp, 1) := by decide +kernel
theorem dX6_whole_25 : decode cX6_whole 25 = .ok (.ifCond .ge 35, 3) := by decide +kernel
theorem dX6_whole_28 : decode cX6_whole 28 = .ok (.lload_n 2, 1) := by decide +kernel
theorem dX6_whole_29 : decode cX6_whole 29 = .ok (.aload_n 0, 1) := by decide +kernel
theorem dX6_whole_30 : decode cX6_whole 30 = .ok (.getfield 7, 3) := by decide +kernel
theorem dX6_whole_33 : decode cX6_whole 33 = .ok (.iload 4, 2) := by decide +kernel
theorem dX6_whole_35 : decode cX6_whole 35 = .ok (.iload_n 1, 1) := by decide +kernel
theorem dX6_whole_36 : decode cX6_whole 36 = .ok (.invokestatic 71, 3) := by decide +kernel
theorem dX6_whole_39 : decode cX6_whole 39 = .ok (.laload, 1) := by decide +kernel
theorem dX6_whole_40 : decode cX6_whole 40 = .ok (.aload_n 0, 1) := by decide +kernel
theorem dX6_whole_41 : decode cX6_whole 41 = .ok (.getfield 7, 3) := by decide +kernel
theorem dX6_whole_44 : decode cX6_whole 44 = .ok (.iload 4, 2) := by decide +kernel
theorem dX6_whole_46 : decode cX6_whole 46 = .ok (.iconst 3, 1) := by decide +kernel
theorem dX6_whole_47 : decode cX6_whole 47 = .ok (.invokestatic 71, 3) := by decide +kernel
theorem dX6_whole_50 : decode cX6_whole 50 = .ok (.laload, 1) := by decide +kernel
theorem dX6_whole_51 : decode cX6_whole 51 = .ok (.lmul, 1) := by decide +kernel
theorem dX6_whole_52 : decode cX6_whole 52 = .ok (.ladd, 1) := by decide +kernel
theorem dX6_whole_53 : decode cX6_whole 53 = .ok (.lstore_n 2, 1) := by decide +kernel
theorem dX6_whole_54 : decode cX6_whole 54 = .ok (.iinc 4 1, 3) := by decide +kernel
theorem dX6_whole_57 : decode cX6_whole 57 = .ok (.goto (-43), 3) := by decide +kernel
theorem dX6_whole_60 : decode cX6_whole 60 = .ok (.lload_n 2, 1) := by decide +kernel
theorem dX6_whole_61 : decode cX6_whole 61 = .ok (.lreturn, 1) := by decide +kernel
set_option maxRecDepth 20000 in
theorem ggX6_told_X6_axisAt : GoodIn wsX6_told wsX6_axisAt := goodIn_r _ [5] (by decide +kernel) (by decide +kernel)
set_option maxRecDepth 20000 in
theorem gX6_told_X6_axisAt : GoodIn wsX6_told (va_wsS RX6 45 yX6_axisAt wsX6_axisAt) := goodIn_app (goodIn_of _ (by decide +kernel)) ggX6_told_X6_axisAt
set_option maxRecDepth 20000 in
theorem ggX6_told_X6_rate : GoodIn wsX6_told wsX6_rate := goodIn_r _ [9, 1, 2, 3, 4, 5, 10, 11, 12, 20, 21, 22, 23, 24, 25, 26, 27, 28, 29, 30] (by decide +kernel) (by decide +kernel)
set_option maxRecDepth 20000 in
theorem gX6_told_X6_rate : GoodIn wsX6_told (wsV RX6 104 RX6 yX6_rate wsX6_rate) := goodIn_app (goodIn_of _ (by decide +kernel)) ggX6_told_X6_rate
set_option maxRecDepth 20000 in
theorem ggX6_told_X6_whole : GoodIn wsX6_told wsX6_whole := goodIn_r _ [16, 1, 2, 3, 4, 5, 17, 18, 19, 20, 21, 22, 23, 24, 25, 26, 27, 28, 29, 30] (by decide +kernel) (by decide +kernel)
set_option maxRecDepth 20000 in
theorem gX6_told_X6_whole : GoodIn wsX6_told (wsV RX6 165 RX6 yX6_whole wsX6_whole) := goodIn_app (goodIn_of _ (by decide +kernel)) ggX6_told_X6_whole
theorem dX6_told_0 : decode cX6_told 0 = .ok (.iload_n 2, 1) := by decide +kernel
theorem dX6_told_1 : decode cX6_told 1 = .ok (.tableswitch 113 0 9 #[55, 66, 77, 83, 89, 113, 113, 113, 113, 101], 55) := by decide +kernel
theorem dX6_told_56 : decode cX6_told 56 = .ok (.aload_n 0, 1) := by decide +kernel
theorem dX6_told_57 : decode cX6_told 57 = .ok (.getfield 7, 3) := by decide +kernel
theorem dX6_told_60 : decode cX6_told 60 = .ok (.iload_n 1, 1) := by decide +kernel
theorem dX6_told_61 : decode cX6_told 61 = .ok (.iconst 0, 1) := by decide +kernel
theorem dX6_told_62 : decode cX6_told 62 = .ok (.invokestatic 45, 3) := by decide +kernel
theorem dX6_told_65 : decode cX6_told 65 = .ok (.laload, 1) := by decide +kernel
theorem dX6_told_66 : decode cX6_told 66 = .ok (.lreturn, 1) := by decide +kernel
theorem dX6_told_67 : decode cX6_told 67 = .ok (.aload_n 0, 1) := by decide +kernel
theorem dX6_told_68 : decode cX6_told 68 = .ok (.getfield 7, 3) := by decide +kernel
theorem dX6_told_71 : decode cX6_told 71 = .ok (.iload_n 1, 1) := by decide +kernel
theorem dX6_told_72 : decode cX6_told 72 = .ok (.iconst 1, 1) := by decide +kernel
theorem dX6_told_73 : decode cX6_told 73 = .ok (.invokestatic 45, 3) := by decide +kernel
theorem dX6_told_76 : decode cX6_told 76 = .ok (.laload, 1) := by decide +kernel
theorem dX6_told_77 : decode cX6_told 77 = .ok (.lreturn, 1) := by decide +kernel
theorem dX6_told_78 : decode cX6_told 78 = .ok (.aload_n 0, 1) := by decide +kernel
theorem dX6_told_79 : decode cX6_told 79 = .ok (.iload_n 1, 1) := by decide +kernel
theorem dX6_told_80 : decode cX6_told 80 = .ok (.invokevirtual 104, 3) := by decide +kernel
theorem dX6_told_83 : decode cX6_told 83 = .ok (.lreturn, 1) := by decide +kernel
theorem dX6_told_84 : decode cX6_told 84 = .ok (.aload_n 0, 1) := by decide +kernel
theorem dX6_told_85 : decode cX6_told 85 = .ok (.iload_n 1, 1) := by decide +kernel
theorem dX6_told_86 : decode cX6_told 86 = .ok (.invokevirtual 165, 3) := by decide +kernel
theorem dX6_told_89 : decode cX6_told 89 = .ok (.lreturn, 1) := by decide +kernel
theorem dX6_told_90 : decode cX6_told 90 = .ok (.aload_n 0, 1) := by decide +kernel
theorem dX6_told_91 : decode cX6_told 91 = .ok (.getfield 7, 3) := by decide +kernel
theorem dX6_told_94 : decode cX6_told 94 = .ok (.iload_n 1, 1) := by decide +kernel
theorem dX6_told_95 : decode cX6_told 95 = .ok (.bipush 6, 2) := by decide +kernel
theorem dX6_told_97 : decode cX6_told 97 = .ok (.invokestatic 45, 3) := by decide +kernel
theorem dX6_told_100 : decode cX6_told 100 = .ok (.laload, 1) := by decide +kernel
theorem dX6_told_101 : decode cX6_told 101 = .ok (.lreturn, 1) := by decide +kernel
theorem dX6_told_102 : decode cX6_told 102 = .ok (.aload_n 0, 1) := by decide +kernel
theorem dX6_told_103 : decode cX6_told 103 = .ok (.getfield 7, 3) := by decide +kernel
theorem dX6_told_106 : decode cX6_told 106 = .ok (.iload_n 1, 1) := by decide +kernel
theorem dX6_told_107 : decode cX6_told 107 = .ok (.bipush 7, 2) := by decide +kernel
theorem dX6_told_109 : decode cX6_told 109 = .ok (.invokestatic 45, 3) := by decide +kernel
theorem dX6_told_112 : decode cX6_told 112 = .ok (.laload, 1) := by decide +kernel
theorem dX6_told_113 : decode cX6_told 113 = .ok (.lreturn, 1) := by decide +kernel
theorem dX6_told_114 : decode cX6_told 114 = .ok (.aload_n 0, 1) := by decide +kernel
theorem dX6_told_115 : decode cX6_told 115 = .ok (.getfield 7, 3) := by decide +kernel
theorem dX6_told_118 : decode cX6_told 118 = .ok (.iload_n 1, 1) := by decide +kernel
theorem dX6_told_119 : decode cX6_told 119 = .ok (.iconst 2, 1) := by decide +kernel
theorem dX6_told_120 : decode cX6_told 120 = .ok (.iload_n 2, 1) := by decide +kernel
theorem dX6_told_121 : decode cX6_told 121 = .ok (.iadd, 1) := by decide +kernel
theorem dX6_told_122 : decode cX6_told 122 = .ok (.iconst 5, 1) := by decide +kernel
theorem dX6_told_123 : decode cX6_told 123 = .ok (.isub, 1) := by decide +kernel
theorem dX6_told_124 : decode cX6_told 124 = .ok (.invokestatic 45, 3) := by decide +kernel
theorem dX6_told_127 : decode cX6_told 127 = .ok (.laload, 1) := by decide +kernel
theorem dX6_told_128 : decode cX6_told 128 = .ok (.lreturn, 1) := by decide +kernel
set_option maxRecDepth 20000 in
theorem ggX6_axis_X6_isAxis : GoodIn wsX6_axis wsX6_isAxis := goodIn_r _ [5, 6, 7, 4, 8] (by decide +kernel) (by decide +kernel)
set_option maxRecDepth 20000 in
theorem gX6_axis_X6_isAxis : GoodIn wsX6_axis (va_wsS RX6 94 yX6_isAxis wsX6_isAxis) := goodIn_app (goodIn_of _ (by decide +kernel)) ggX6_axis_X6_isAxis
set_option maxRecDepth 20000 in
theorem ggX6_axis_X6_in : GoodIn wsX6_axis wsX6_in := goodIn_r _ [8] (by decide +kernel) (by decide +kernel)
set_option maxRecDepth 20000 in
theorem gX6_axis_X6_in : GoodIn wsX6_axis (va_wsS RX6 67 yX6_in wsX6_in) := goodIn_app (goodIn_of _ (by decide +kernel)) ggX6_axis_X6_in
set_option maxRecDepth 20000 in
theorem ggX6_axis_X6_told : GoodIn wsX6_axis wsX6_told := goodIn_r _ [12, 13, 14, 15, 4, 16, 17, 18, 19, 20, 21, 22, 23, 24, 25, 26, 27, 28, 29, 30, 31, 32, 33, 34, 35, 36, 37, 38, 39, 40, 41] (by decide +kernel) (by decide +kernel)
set_option maxRecDepth 20000 in
theorem gX6_axis_X6_told : GoodIn wsX6_axis (wsV RX6 168 RX6 yX6_told wsX6_told) := goodIn_app (goodIn_of _ (by decide +kernel)) ggX6_axis_X6_told
theorem dX6_axis_0 : decode cX6_axis 0 = .ok (.iload_n 1, 1) := by decide +kernel
theorem dX6_axis_1 : decode cX6_axis 1 = .ok (.invokestatic 94, 3) := by decide +kernel
theorem dX6_axis_4 : decode cX6_axis 4 = .ok (.ifCond .eq 22, 3) := by decide +kernel
theorem dX6_axis_7 : decode cX6_axis 7 = .ok (.iload_n 2, 1) := by decide +kernel
theorem dX6_axis_8 : decode cX6_axis 8 = .ok (.iconst 0, 1) := by decide +kernel
theorem dX6_axis_9 : decode cX6_axis 9 = .ok (.bipush 9, 2) := by decide +kernel
theorem dX6_axis_11 : decode cX6_axis 11 = .ok (.invokestatic 67, 3) := by decide +kernel
theorem dX6_axis_14 : decode cX6_axis 14 = .ok (.ifCond .eq 12, 3) := by decide +kernel
theorem dX6_axis_17 : decode cX6_axis 17 = .ok (.aload_n 0, 1) := by decide +kernel
theorem dX6_axis_18 : decode cX6_axis 18 = .ok (.iload_n 1, 1) := by decide +kernel
theorem dX6_axis_19 : decode cX6_axis 19 = .ok (.iload_n 2, 1) := by decide +kernel
theorem dX6_axis_20 : decode cX6_axis 20 = .ok (.invokevirtual 168, 3) := by decide +kernel
theorem dX6_axis_23 : decode cX6_axis 23 = .ok (.goto 6, 3) := by decide +kernel
theorem dX6_axis_26 : decode cX6_axis 26 = .ok (.ldc2_w 98, 3) := by decide +kernel
theorem dX6_axis_29 : decode cX6_axis 29 = .ok (.lreturn, 1) := by decide +kernel
set_option maxRecDepth 20000 in
theorem ggX6_span_X6_spans : GoodIn wsX6_span wsX6_spans := goodIn_r _ [7, 8, 9, 10, 2, 11, 12, 13, 6, 14, 15, 16, 17, 18, 19, 20, 21, 22, 23, 24, 25, 26, 27, 28, 29, 30, 31] (by decide +kernel) (by decide +kernel)
set_option maxRecDepth 20000 in
theorem gX6_span_X6_spans : GoodIn wsX6_span (wsV RX6 122 RX6 yX6_spans wsX6_spans) := goodIn_app (goodIn_of _ (by decide +kernel)) ggX6_span_X6_spans
theorem dX6_span_0 : decode cX6_span 0 = .ok (.aload_n 0, 1) := by decide +kernel
theorem dX6_span_1 : decode cX6_span 1 = .ok (.ldc 121, 2) := by decide +kernel
theorem dX6_span_3 : decode cX6_span 3 = .ok (.invokevirtual 122, 3) := by decide +kernel
theorem dX6_span_6 : decode cX6_span 6 = .ok (.aload_n 0, 1) := by decide +kernel
theorem dX6_span_7 : decode cX6_span 7 = .ok (.getfield 114, 3) := by decide +kernel
theorem dX6_span_10 : decode cX6_span 10 = .ok (.lreturn, 1) := by decide +kernel
set_option maxRecDepth 20000 in
theorem ggX6_isTorque_X6_in : GoodIn wsX6_isTorque wsX6_in := goodIn_r _ [6] (by decide +kernel) (by decide +kernel)
set_option maxRecDepth 20000 in
theorem gX6_isTorque_X6_in : GoodIn wsX6_isTorque (va_wsS RX6 67 yX6_in wsX6_in) := goodIn_app (goodIn_of _ (by decide +kernel)) ggX6_isTorque_X6_in
theorem dX6_isTorque_0 : decode cX6_isTorque 0 = .ok (.iload_n 0, 1) := by decide +kernel
theorem dX6_isTorque_1 : decode cX6_isTorque 1 = .ok (.ldc 97, 2) := by decide +kernel
theorem dX6_isTorque_3 : decode cX6_isTorque 3 = .ok (.ldc 79, 2) := by decide +kernel
theorem dX6_isTorque_5 : decode cX6_isTorque 5 = .ok (.invokestatic 67, 3) := by decide +kernel
theorem dX6_isTorque_8 : decode cX6_isTorque 8 = .ok (.ireturn, 1) := by decide +kernel
set_option maxRecDepth 20000 in
theorem ggX6_wish_X6_isWheel : GoodIn wsX6_wish wsX6_isWheel := goodIn_r _ [8, 9, 10, 11, 7, 12, 45, 46, 47, 48, 49, 50, 51, 52, 53, 54, 55] (by decide +kernel) (by decide +kernel)
set_option maxRecDepth 20000 in
theorem gX6_wish_X6_isWheel : GoodIn wsX6_wish (wsV RX6 87 RX6 yX6_isWheel wsX6_isWheel) := goodIn_app (goodIn_of _ (by decide +kernel)) ggX6_wish_X6_isWheel
set_option maxRecDepth 20000 in
theorem ggX6_wish_X6_works : GoodIn wsX6_wish wsX6_works := goodIn_r _ [16, 9, 17, 18, 7, 19, 45, 46, 47, 48, 49, 50, 51, 52, 53, 54, 55] (by decide +kernel) (by decide +kernel)
set_option maxRecDepth 20000 in
theorem gX6_wish_X6_works : GoodIn wsX6_wish (wsV RX6 108 RX6 yX6_works wsX6_works) := goodIn_app (goodIn_of _ (by decide +kernel)) ggX6_wish_X6_works
set_option maxRecDepth 20000 in
theorem ggX6_wish_X6_isTorque : GoodIn wsX6_wish wsX6_isTorque := goodIn_r _ [22, 23, 24, 10, 11, 7, 12] (by decide +kernel) (by decide +kernel)
set_option maxRecDepth 20000 in
theorem gX6_wish_X6_isTorque : GoodIn wsX6_wish (va_wsS RX6 172 yX6_isTorque wsX6_isTorque) := goodIn_app (goodIn_of _ (by decide +kernel)) ggX6_wish_X6_isTorque
set_option maxRecDepth 20000 in
theorem ggX6_wish_X6_spans : GoodIn wsX6_wish wsX6_spans := goodIn_r _ [28, 29, 9, 30, 3, 13, 14, 15, 7, 16, 17, 18, 19, 31, 32, 33, 45, 46, 47, 48, 49, 50, 51, 52, 53, 54, 55] (by decide +kernel) (by decide +kernel)
set_option maxRecDepth 20000 in
theorem gX6_wish_X6_spans : GoodIn wsX6_wish (wsV RX6 122 RX6 yX6_spans wsX6_spans) := goodIn_app (goodIn_of _ (by decide +kernel)) ggX6_wish_X6_spans
set_option maxRecDepth 20000 in
theorem ggX6_wish_X6_wishOf : GoodIn wsX6_wish wsX6_wishOf := goodIn_r _ [37, 9, 30, 3, 17, 18, 7, 19, 38, 39, 40, 41, 42, 43, 44, 45, 46, 47, 48, 49, 50, 51, 52, 53, 54, 55] (by decide +kernel) (by decide +kernel)
set_option maxRecDepth 20000 in
theorem gX6_wish_X6_wishOf : GoodIn wsX6_wish (wsV RX6 126 RX6 yX6_wishOf wsX6_wishOf) := goodIn_app (goodIn_of _ (by decide +kernel)) ggX6_wish_X6_wishOf
theorem dX6_wish_0 : decode cX6_wish 0 = .ok (.aload_n 0, 1) := by decide +kernel
theorem dX6_wish_1 : decode cX6_wish 1 = .ok (.iload_n 1, 1) := by decide +kernel
theorem dX6_wish_2 : decode cX6_wish 2 = .ok (.invokevirtual 87, 3) := by decide +kernel
theorem dX6_wish_5 : decode cX6_wish 5 = .ok (.ifCond .eq 33, 3) := by decide +kernel
theorem dX6_wish_8 : decode cX6_wish 8 = .ok (.aload_n 0, 1) := by decide +kernel
theorem dX6_wish_9 : decode cX6_wish 9 = .ok (.iload_n 1, 1) := by decide +kernel
theorem dX6_wish_10 : decode cX6_wish 10 = .ok (.invokevirtual 108, 3) := by decide +kernel
theorem dX6_wish_13 : decode cX6_wish 13 = .ok (.ifCond .eq 25, 3) := by decide +kernel
theorem dX6_wish_16 : decode cX6_wish 16 = .ok (.iload_n 2, 1) := by decide +kernel
theorem dX6_wish_17 : decode cX6_wish 17 = .ok (.invokestatic 172, 3) := by decide +kernel
theorem dX6_wish_20 : decode cX6_wish 20 = .ok (.ifCond .eq 18, 3) := by decide +kernel
theorem dX6_wish_23 : decode cX6_wish 23 = .ok (.iload_n 3, 1) := by decide +kernel
theorem dX6_wish_24 : decode cX6_wish 24 = .ok (.invokestatic 172, 3) := by decide +kernel
theorem dX6_wish_27 : decode cX6_wish 27 = .ok (.ifCond .eq 11, 3) := by decide +kernel
theorem dX6_wish_30 : decode cX6_wish 30 = .ok (.iload 4, 2) := by decide +kernel
theorem dX6_wish_32 : decode cX6_wish 32 = .ok (.invokestatic 172, 3) := by decide +kernel
theorem dX6_wish_35 : decode cX6_wish 35 = .ok (.ifCond .ne 7, 3) := by decide +kernel
theorem dX6_wish_38 : decode cX6_wish 38 = .ok (.ldc2_w 98, 3) := by decide +kernel
theorem dX6_wish_41 : decode cX6_wish 41 = .ok (.lreturn, 1) := by decide +kernel
theorem dX6_wish_42 : decode cX6_wish 42 = .ok (.aload_n 0, 1) := by decide +kernel
theorem dX6_wish_43 : decode cX6_wish 43 = .ok (.ldc 121, 2) := by decide +kernel
theorem dX6_wish_45 : decode cX6_wish 45 = .ok (.invokevirtual 122, 3) := by decide +kernel
theorem dX6_wish_48 : decode cX6_wish 48 = .ok (.aload_n 0, 1) := by decide +kernel
theorem dX6_wish_49 : decode cX6_wish 49 = .ok (.getfield 114, 3) := by decide +kernel
theorem dX6_wish_52 : decode cX6_wish 52 = .ok (.lconst 0, 1) := by decide +kernel
theorem dX6_wish_53 : decode cX6_wish 53 = .ok (.lcmp, 1) := by decide +kernel
theorem dX6_wish_54 : decode cX6_wish 54 = .ok (.ifCond .ne 9, 3) := by decide +kernel
theorem dX6_wish_57 : decode cX6_wish 57 = .ok (.ldc2_w 98, 3) := by decide +kernel
theorem dX6_wish_60 : decode cX6_wish 60 = .ok (.goto 15, 3) := by decide +kernel
theorem dX6_wish_63 : decode cX6_wish 63 = .ok (.aload_n 0, 1) := by decide +kernel
theorem dX6_wish_64 : decode cX6_wish 64 = .ok (.iload_n 1, 1) := by decide +kernel
theorem dX6_wish_65 : decode cX6_wish 65 = .ok (.iload_n 2, 1) := by decide +kernel
theorem dX6_wish_66 : decode cX6_wish 66 = .ok (.i2l, 1) := by decide +kernel
theorem dX6_wish_67 : decode cX6_wish 67 = .ok (.iload_n 3, 1) := by decide +kernel
theorem dX6_wish_68 : decode cX6_wish 68 = .ok (.i2l, 1) := by decide +kernel
theorem dX6_wish_69 : decode cX6_wish 69 = .ok (.iload 4, 2) := by decide +kernel
theorem dX6_wish_71 : decode cX6_wish 71 = .ok (.i2l, 1) := by decide +kernel
theorem dX6_wish_72 : decode cX6_wish 72 = .ok (.invokevirtual 126, 3) := by decide +kernel
theorem dX6_wish_75 : decode cX6_wish 75 = .ok (.lreturn, 1) := by decide +kernel
theorem dX6_why_0 : decode cX6_why 0 = .ok (.iload_n 1, 1) := by decide +kernel
theorem dX6_why_1 : decode cX6_why 1 = .ok (.ifCond .ge 8, 3) := by decide +kernel
theorem dX6_why_4 : decode cX6_why 4 = .ok (.ldc 80, 2) := by decide +kernel
theorem dX6_why_6 : decode cX6_why 6 = .ok (.goto 23, 3) := by decide +kernel
theorem dX6_why_9 : decode cX6_why 9 = .ok (.iload_n 1, 1) := by decide +kernel
theorem dX6_why_10 : decode cX6_why 10 = .ok (.iconst 2, 1) := by decide +kernel
theorem dX6_why_11 : decode cX6_why 11 = .ok (.if_icmp .le 8, 3) := by decide +kernel
theorem dX6_why_14 : decode cX6_why 14 = .ok (.ldc 121, 2) := by decide +kernel
theorem dX6_why_16 : decode cX6_why 16 = .ok (.goto 13, 3) := by decide +kernel
theorem dX6_why_19 : decode cX6_why 19 = .ok (.aload_n 0, 1) := by decide +kernel
theorem dX6_why_20 : decode cX6_why 20 = .ok (.getfield 7, 3) := by decide +kernel
theorem dX6_why_23 : decode cX6_why 23 = .ok (.bipush 8, 2) := by decide +kernel
theorem dX6_why_25 : decode cX6_why 25 = .ok (.iload_n 1, 1) := by decide +kernel
theorem dX6_why_26 : decode cX6_why 26 = .ok (.iadd, 1) := by decide +kernel
theorem dX6_why_27 : decode cX6_why 27 = .ok (.laload, 1) := by decide +kernel
theorem dX6_why_28 : decode cX6_why 28 = .ok (.l2i, 1) := by decide +kernel
theorem dX6_why_29 : decode cX6_why 29 = .ok (.ireturn, 1) := by decide +kernel
set_option maxRecDepth 20000 in
theorem ggX6_fullness_X6_wheelAt : GoodIn wsX6_fullness wsX6_wheelAt := goodIn_r _ [5] (by decide +kernel) (by decide +kernel)
set_option maxRecDepth 20000 in
theorem gX6_fullness_X6_wheelAt : GoodIn wsX6_fullness (va_wsS RX6 71 yX6_wheelAt wsX6_wheelAt) := goodIn_app (goodIn_of _ (by decide +kernel)) ggX6_fullness_X6_wheelAt
set_option maxRecDepth 20000 in
theorem ggX6_fullness_X6_size : GoodIn wsX6_fullness wsX6_size := goodIn_r _ [8] (by decide +kernel) (by decide +kernel)
set_option maxRecDepth 20000 in
theorem gX6_fullness_X6_size : GoodIn wsX6_fullness (va_wsS RX6 175 yX6_size wsX6_size) := goodIn_app (goodIn_of _ (by decide +kernel)) ggX6_fullness_X6_size
theorem dX6_fullness_0 : decode cX6_fullness 0 = .ok (.fconst 0, 1) := by decide +kernel
theorem dX6_fullness_1 : decode cX6_fullness 1 = .ok (.fstore_n 1, 1) := by decide +kernel
theorem dX6_fullness_2 : decode cX6_fullness 2 = .ok (.iconst 0, 1) := by decide +kernel
theorem dX6_fullness_3 : decode cX6_fullness 3 = .ok (.istore_n 2, 1) := by decide +kernel
theorem dX6_fullness_4 : decode cX6_fullness 4 = .ok (.iload_n 2, 1) := by decide +kernel
theorem dX6_fullness_5 : decode cX6_fullness 5 = .ok (.i2l, 1) := by decide +kernel
theorem dX6_fullness_6 : decode cX6_fullness 6 = .ok (.aload_n 0, 1) := by decide +kernel
theorem dX6_fullness_7 : decode cX6_fullness 7 = .ok (.getfield 7, 3) := by decide +kernel
theorem dX6_fullness_10 : decode cX6_fullness 10 = .ok (.bipush 6, 2) := by decide +kernel
theorem dX6_fullness_12 : decode cX6_fullness 12 = .ok (.laload, 1) := by decide +kernel
theorem dX6_fullness_13 : decode cX6_fullness 13 = .ok (.lcmp, 1) := by decide +kernel
theorem dX6_fullness_14 : decode cX6_fullness 14 = .ok (.ifCond .ge 48, 3) := by decide +kernel
theorem dX6_fullness_17 : decode cX6_fullness 17 = .ok (.aload_n 0, 1) := by decide +kernel
theorem dX6_fullness_18 : decode cX6_fullness 18 = .ok (.getfield 7, 3) := by decide +kernel
theorem dX6_fullness_21 : decode cX6_fullness 21 = .ok (.iload_n 2, 1) := by decide +kernel
theorem dX6_fullness_22 : decode cX6_fullness 22 = .ok (.iconst 3, 1) := by decide +kernel
theorem dX6_fullness_23 : decode cX6_fullness 23 = .ok (.invokestatic 71, 3) := by decide +kernel
theorem dX6_fullness_26 : decode cX6_fullness 26 = .ok (.laload, 1) := by decide +kernel
theorem dX6_fullness_27 : decode cX6_fullness 27 = .ok (.invokestatic 175, 3) := by decide +kernel
theorem dX6_fullness_30 : decode cX6_fullness 30 = .ok (.l2f, 1) := by decide +kernel
theorem dX6_fullness_31 : decode cX6_fullness 31 = .ok (.aload_n 0, 1) := by decide +kernel
theorem dX6_fullness_32 : decode cX6_fullness 32 = .ok (.getfield 7, 3) := by decide +kernel
theorem dX6_fullness_35 : decode cX6_fullness 35 = .ok (.iload_n 2, 1) := by decide +kernel
theorem dX6_fullness_36 : decode cX6_fullness 36 = .ok (.iconst 4, 1) := by decide +kernel
theorem dX6_fullness_37 : decode cX6_fullness 37 = .ok (.invokestatic 71, 3) := by decide +kernel
theorem dX6_fullness_40 : decode cX6_fullness 40 = .ok (.laload, 1) := by decide +kernel
theorem dX6_fullness_41 : decode cX6_fullness 41 = .ok (.l2f, 1) := by decide +kernel
theorem dX6_fullness_42 : decode cX6_fullness 42 = .ok (.fdiv, 1) := by decide +kernel
theorem dX6_fullness_43 : decode cX6_fullness 43 = .ok (.fstore_n 3, 1) := by decide +kernel
theorem dX6_fullness_44 : decode cX6_fullness 44 = .ok (.fload_n 3, 1) := by decide +kernel
theorem dX6_fullness_45 : decode cX6_fullness 45 = .ok (.fload_n 1, 1) := by decide +kernel
theorem dX6_fullness_46 : decode cX6_fullness 46 = .ok (.fcmp .l, 1) := by decide +kernel
theorem dX6_fullness_47 : decode cX6_fullness 47 = .ok (.ifCond .le 7, 3) := by decide +kernel
theorem dX6_fullness_50 : decode cX6_fullness 50 = .ok (.fload_n 3, 1) := by decide +kernel
theorem dX6_fullness_51 : decode cX6_fullness 51 = .ok (.goto 4, 3) := by decide +kernel
theorem dX6_fullness_54 : decode cX6_fullness 54 = .ok (.fload_n 1, 1) := by decide +kernel
theorem dX6_fullness_55 : decode cX6_fullness 55 = .ok (.fstore_n 1, 1) := by decide +kernel
theorem dX6_fullness_56 : decode cX6_fullness 56 = .ok (.iinc 2 1, 3) := by decide +kernel
theorem dX6_fullness_59 : decode cX6_fullness 59 = .ok (.goto (-55), 3) := by decide +kernel
theorem dX6_fullness_62 : decode cX6_fullness 62 = .ok (.fload_n 1, 1) := by decide +kernel
theorem dX6_fullness_63 : decode cX6_fullness 63 = .ok (.freturn, 1) := by decide +kernel
set_option maxRecDepth 20000 in
theorem ggX6_isThere_X6_axisAt : GoodIn wsX6_isThere wsX6_axisAt := goodIn_r _ [5] (by decide +kernel) (by decide +kernel)
set_option maxRecDepth 20000 in
theorem gX6_isThere_X6_axisAt : GoodIn wsX6_isThere (va_wsS RX6 45 yX6_axisAt wsX6_axisAt) := goodIn_app (goodIn_of _ (by decide +kernel)) ggX6_isThere_X6_axisAt
set_option maxRecDepth 20000 in
theorem ggX6_isThere_X6_size : GoodIn wsX6_isThere wsX6_size := goodIn_r _ [8] (by decide +kernel) (by decide +kernel)
set_option maxRecDepth 20000 in
theorem gX6_isThere_X6_size : GoodIn wsX6_isThere (va_wsS RX6 175 yX6_size wsX6_size) := goodIn_app (goodIn_of _ (by decide +kernel)) ggX6_isThere_X6_size
set_option maxRecDepth 20000 in
theorem ggX6_isThere_X6_rate : GoodIn wsX6_isThere wsX6_rate := goodIn_r _ [12, 1, 2, 3, 4, 5, 13, 14, 15, 16, 17, 18, 19, 20, 21, 22, 23, 24, 25, 26] (by decide +kernel) (by decide +kernel)
set_option maxRecDepth 20000 in
theorem gX6_isThere_X6_rate : GoodIn wsX6_isThere (wsV RX6 104 RX6 yX6_rate wsX6_rate) := goodIn_app (goodIn_of _ (by decide +kernel)) ggX6_isThere_X6_rate
theorem dX6_isThere_0 : decode cX6_isThere 0 = .ok (.iconst 1, 1) := by decide +kernel
theorem dX6_isThere_1 : decode cX6_isThere 1 = .ok (.istore_n 2, 1) := by decide +kernel
theorem dX6_isThere_2 : decode cX6_isThere 2 = .ok (.iconst 0, 1) := by decide +kernel
theorem dX6_isThere_3 : decode cX6_isThere 3 = .ok (.istore_n 3, 1) := by decide +kernel
theorem dX6_isThere_4 : decode cX6_isThere 4 = .ok (.iload_n 3, 1) := by decide +kernel
theorem dX6_isThere_5 : decode cX6_isThere 5 = .ok (.iconst 3, 1) := by decide +kernel
theorem dX6_isThere_6 : decode cX6_isThere 6 = .ok (.if_icmp .ge 62, 3) := by decide +kernel
theorem dX6_isThere_9 : decode cX6_isThere 9 = .ok (.iload_n 2, 1) := by decide +kernel
theorem dX6_isThere_10 : decode cX6_isThere 10 = .ok (.ifCond .eq 50, 3) := by decide +kernel
theorem dX6_isThere_13 : decode cX6_isThere 13 = .ok (.aload_n 0, 1) := by decide +kernel
theorem dX6_isThere_14 : decode cX6_isThere 14 = .ok (.getfield 7, 3) := by decide +kernel
theorem dX6_isThere_17 : decode cX6_isThere 17 = .ok (.iload_n 3, 1) := by decide +kernel
theorem dX6_isThere_18 : decode cX6_isThere 18 = .ok (.iconst 0, 1) := by decide +kernel
theorem dX6_isThere_19 : decode cX6_isThere 19 = .ok (.invokestatic 45, 3) := by decide +kernel
theorem dX6_isThere_22 : decode cX6_isThere 22 = .ok (.laload, 1) := by decide +kernel
theorem dX6_isThere_23 : decode cX6_isThere 23 = .ok (.aload_n 0, 1) := by decide +kernel
theorem dX6_isThere_24 : decode cX6_isThere 24 = .ok (.getfield 7, 3) := by decide +kernel
theorem dX6_isThere_27 : decode cX6_isThere 27 = .ok (.iload_n 3, 1) := by decide +kernel
theorem dX6_isThere_28 : decode cX6_isThere 28 = .ok (.iconst 3, 1) := by decide +kernel
theorem dX6_isThere_29 : decode cX6_isThere 29 = .ok (.invokestatic 45, 3) := by decide +kernel
theorem dX6_isThere_32 : decode cX6_isThere 32 = .ok (.laload, 1) := by decide +kernel
theorem dX6_isThere_33 : decode cX6_isThere 33 = .ok (.lsub, 1) := by decide +kernel
theorem dX6_isThere_34 : decode cX6_isThere 34 = .ok (.invokestatic 175, 3) := by decide +kernel
theorem dX6_isThere_37 : decode cX6_isThere 37 = .ok (.iload_n 1, 1) := by decide +kernel
theorem dX6_isThere_38 : decode cX6_isThere 38 = .ok (.i2l, 1) := by decide +kernel
theorem dX6_isThere_39 : decode cX6_isThere 39 = .ok (.lcmp, 1) := by decide +kernel
theorem dX6_isThere_40 : decode cX6_isThere 40 = .ok (.ifCond .gt 20, 3) := by decide +kernel
theorem dX6_isThere_43 : decode cX6_isThere 43 = .ok (.aload_n 0, 1) := by decide +kernel
theorem dX6_isThere_44 : decode cX6_isThere 44 = .ok (.iload_n 3, 1) := by decide +kernel
theorem dX6_isThere_45 : decode cX6_isThere 45 = .ok (.invokevirtual 104, 3) := by decide +kernel
theorem dX6_isThere_48 : decode cX6_isThere 48 = .ok (.invokestatic 175, 3) := by decide +kernel
theorem dX6_isThere_51 : decode cX6_isThere 51 = .ok (.lconst 1, 1) := by decide +kernel
theorem dX6_isThere_52 : decode cX6_isThere 52 = .ok (.lcmp, 1) := by decide +kernel
theorem dX6_isThere_53 : decode cX6_isThere 53 = .ok (.ifCond .gt 7, 3) := by decide +kernel
theorem dX6_isThere_56 : decode cX6_isThere 56 = .ok (.iconst 1, 1) := by decide +kernel
theorem dX6_isThere_57 : decode cX6_isThere 57 = .ok (.goto 4, 3) := by decide +kernel
theorem dX6_isThere_60 : decode cX6_isThere 60 = .ok (.iconst 0, 1) := by decide +kernel
theorem dX6_isThere_61 : decode cX6_isThere 61 = .ok (.istore_n 2, 1) := by decide +kernel
theorem dX6_isThere_62 : decode cX6_isThere 62 = .ok (.iinc 3 1, 3) := by decide +kernel
theorem dX6_isThere_65 : decode cX6_isThere 65 = .ok (.goto (-61), 3) := by decide +kernel
theorem dX6_isThere_68 : decode cX6_isThere 68 = .ok (.iload_n 2, 1) := by decide +kernel
theorem dX6_isThere_69 : decode cX6_isThere 69 = .ok (.ireturn, 1) := by decide +kernel
set_option maxRecDepth 20000 in
theorem ggX6_arrives_X6_in : GoodIn wsX6_arrives wsX6_in := goodIn_r _ [9] (by decide +kernel) (by decide +kernel)
set_option maxRecDepth 20000 in
theorem gX6_arrives_X6_in : GoodIn wsX6_arrives (va_wsS RX6 67 yX6_in wsX6_in) := goodIn_app (goodIn_of _ (by decide +kernel)) ggX6_arrives_X6_in
set_option maxRecDepth 20000 in
theorem ggX6_arrives_X6_copies : GoodIn wsX6_arrives wsX6_copies := goodIn_r _ [12] (by decide +kernel) (by decide +kernel)
set_option maxRecDepth 20000 in
theorem gX6_arrives_X6_copies : GoodIn wsX6_arrives (va_wsS RX6 179 yX6_copies wsX6_copies) := goodIn_app (goodIn_of _ (by decide +kernel)) ggX6_arrives_X6_copies
set_option maxRecDepth 20000 in
theorem ggX6_arrives_X6_isThere : GoodIn wsX6_arrives wsX6_isThere := goodIn_r _ [16, 3, 17, 18, 8, 19, 20, 21, 22, 23, 24, 25, 26, 27, 28, 29, 100, 101, 102, 103, 104, 105, 106, 107, 108, 109, 110] (by decide +kernel) (by decide +kernel)
set_option maxRecDepth 20000 in
theorem gX6_arrives_X6_isThere : GoodIn wsX6_arrives (wsV RX6 183 RX6 yX6_isThere wsX6_isThere) := goodIn_app (goodIn_of _ (by decide +kernel)) ggX6_arrives_X6_isThere
set_option maxRecDepth 20000 in
theorem ggX6_arrives_X6_passes : GoodIn wsX6_arrives wsX6_passes := goodIn_r _ [33, 3, 34, 35, 17, 18, 8, 19, 27, 28, 29, 36, 37, 38, 23, 24, 25, 26, 39, 40, 41, 42, 5, 43, 44, 45, 46, 47, 48, 49, 50, 51, 52, 53, 54, 55, 56, 57, 58, 59, 60, 61, 62, 63, 64, 65, 66, 67, 68, 69, 70, 71, 72, 73, 74, 75, 76, 77, 78, 79, 80, 81, 82, 83, 84, 85, 86, 87, 88, 89, 90, 91, 92, 93, 94, 95, 96, 97, 98, 99, 100, 101, 102, 103, 104, 105, 106, 107, 108, 109, 110] (by decide +kernel) (by decide +kernel)
set_option maxRecDepth 20000 in
theorem gX6_arrives_X6_passes : GoodIn wsX6_arrives (wsV RX6 162 RX6 yX6_passes wsX6_passes) := goodIn_app (goodIn_of _ (by decide +kernel)) ggX6_arrives_X6_passes
theorem dX6_arrives_0 : decode cX6_arrives 0 = .ok (.iload_n 1, 1) := by decide +kernel
theorem dX6_arrives_1 : decode cX6_arrives 1 = .ok (.iconst 0, 1) := by decide +kernel
theorem dX6_arrives_2 : decode cX6_arrives 2 = .ok (.ldc 78, 2) := by decide +kernel
theorem dX6_arrives_4 : decode cX6_arrives 4 = .ok (.invokestatic 67, 3) := by decide +kernel
theorem dX6_arrives_7 : decode cX6_arrives 7 = .ok (.ifCond .ne 6, 3) := by decide +kernel
theorem dX6_arrives_10 : decode cX6_arrives 10 = .ok (.ldc 80, 2) := by decide +kernel
theorem dX6_arrives_12 : decode cX6_arrives 12 = .ok (.ireturn, 1) := by decide +kernel
theorem dX6_arrives_13 : decode cX6_arrives 13 = .ok (.aload_n 0, 1) := by decide +kernel
theorem dX6_arrives_14 : decode cX6_arrives 14 = .ok (.getfield 7, 3) := by decide +kernel
theorem dX6_arrives_17 : decode cX6_arrives 17 = .ok (.aload_n 0, 1) := by decide +kernel
theorem dX6_arrives_18 : decode cX6_arrives 18 = .ok (.getfield 13, 3) := by decide +kernel
theorem dX6_arrives_21 : decode cX6_arrives 21 = .ok (.invokestatic 179, 3) := by decide +kernel
theorem dX6_arrives_24 : decode cX6_arrives 24 = .ok (.ldc 121, 2) := by decide +kernel
theorem dX6_arrives_26 : decode cX6_arrives 26 = .ok (.istore_n 2, 1) := by decide +kernel
theorem dX6_arrives_27 : decode cX6_arrives 27 = .ok (.iconst 0, 1) := by decide +kernel
theorem dX6_arrives_28 : decode cX6_arrives 28 = .ok (.istore_n 3, 1) := by decide +kernel
theorem dX6_arrives_29 : decode cX6_arrives 29 = .ok (.iload_n 3, 1) := by decide +kernel
theorem dX6_arrives_30 : decode cX6_arrives 30 = .ok (.sipush 500, 3) := by decide +kernel
theorem dX6_arrives_33 : decode cX6_arrives 33 = .ok (.if_icmp .gt 33, 3) := by decide +kernel
theorem dX6_arrives_36 : decode cX6_arrives 36 = .ok (.iload_n 2, 1) := by decide +kernel
theorem dX6_arrives_37 : decode cX6_arrives 37 = .ok (.ifCond .ge 29, 3) := by decide +kernel
theorem dX6_arrives_40 : decode cX6_arrives 40 = .ok (.aload_n 0, 1) := by decide +kernel
theorem dX6_arrives_41 : decode cX6_arrives 41 = .ok (.iload_n 1, 1) := by decide +kernel
theorem dX6_arrives_42 : decode cX6_arrives 42 = .ok (.invokevirtual 183, 3) := by decide +kernel
theorem dX6_arrives_45 : decode cX6_arrives 45 = .ok (.ifCond .eq 7, 3) := by decide +kernel
theorem dX6_arrives_48 : decode cX6_arrives 48 = .ok (.iload_n 3, 1) := by decide +kernel
theorem dX6_arrives_49 : decode cX6_arrives 49 = .ok (.goto 4, 3) := by decide +kernel
theorem dX6_arrives_52 : decode cX6_arrives 52 = .ok (.iload_n 2, 1) := by decide +kernel
theorem dX6_arrives_53 : decode cX6_arrives 53 = .ok (.istore_n 2, 1) := by decide +kernel
theorem dX6_arrives_54 : decode cX6_arrives 54 = .ok (.aload_n 0, 1) := by decide +kernel
theorem dX6_arrives_55 : decode cX6_arrives 55 = .ok (.invokevirtual 162, 3) := by decide +kernel
theorem dX6_arrives_58 : decode cX6_arrives 58 = .ok (.istore 4, 2) := by decide +kernel
theorem dX6_arrives_60 : decode cX6_arrives 60 = .ok (.iinc 3 1, 3) := by decide +kernel
theorem dX6_arrives_63 : decode cX6_arrives 63 = .ok (.goto (-34), 3) := by decide +kernel
theorem dX6_arrives_66 : decode cX6_arrives 66 = .ok (.aload_n 0, 1) := by decide +kernel
theorem dX6_arrives_67 : decode cX6_arrives 67 = .ok (.getfield 13, 3) := by decide +kernel
theorem dX6_arrives_70 : decode cX6_arrives 70 = .ok (.aload_n 0, 1) := by decide +kernel
theorem dX6_arrives_71 : decode cX6_arrives 71 = .ok (.getfield 7, 3) := by decide +kernel
theorem dX6_arrives_74 : decode cX6_arrives 74 = .ok (.invokestatic 179, 3) := by decide +kernel
theorem dX6_arrives_77 : decode cX6_arrives 77 = .ok (.iload_n 2, 1) := by decide +kernel
theorem dX6_arrives_78 : decode cX6_arrives 78 = .ok (.ireturn, 1) := by decide +kernel
set_option maxRecDepth 20000 in
theorem ggX6_spare_X6_spans : GoodIn wsX6_spare wsX6_spans := goodIn_r _ [7, 8, 1, 9, 2, 10, 11, 12, 6, 13, 14, 15, 16, 17, 18, 19, 20, 21, 22, 23, 24, 25, 26, 27, 28, 29, 30] (by decide +kernel) (by decide +kernel)
set_option maxRecDepth 20000 in
theorem gX6_spare_X6_spans : GoodIn wsX6_spare (wsV RX6 122 RX6 yX6_spans wsX6_spans) := goodIn_app (goodIn_of _ (by decide +kernel)) ggX6_spare_X6_spans
set_option maxRecDepth 20000 in
theorem ggX6_spare_X6_works : GoodIn wsX6_spare wsX6_works := goodIn_r _ [13, 1, 14, 15, 6, 16, 20, 21, 22, 23, 24, 25, 26, 27, 28, 29, 30] (by decide +kernel) (by decide +kernel)
set_option maxRecDepth 20000 in
theorem gX6_spare_X6_works : GoodIn wsX6_spare (wsV RX6 108 RX6 yX6_works wsX6_works) := goodIn_app (goodIn_of _ (by decide +kernel)) ggX6_spare_X6_works
theorem dX6_spare_0 : decode cX6_spare 0 = .ok (.iconst 0, 1) := by decide +kernel
theorem dX6_spare_1 : decode cX6_spare 1 = .ok (.istore_n 1, 1) := by decide +kernel
theorem dX6_spare_2 : decode cX6_spare 2 = .ok (.iconst 0, 1) := by decide +kernel
theorem dX6_spare_3 : decode cX6_spare 3 = .ok (.istore_n 2, 1) := by decide +kernel
theorem dX6_spare_4 : decode cX6_spare 4 = .ok (.iload_n 2, 1) := by decide +kernel
theorem dX6_spare_5 : decode cX6_spare 5 = .ok (.i2l, 1) := by decide +kernel
theorem dX6_spare_6 : decode cX6_spare 6 = .ok (.aload_n 0, 1) := by decide +kernel
theorem dX6_spare_7 : decode cX6_spare 7 = .ok (.getfield 7, 3) := by decide +kernel
theorem dX6_spare_10 : decode cX6_spare 10 = .ok (.bipush 6, 2) := by decide +kernel
theorem dX6_spare_12 : decode cX6_spare 12 = .ok (.laload, 1) := by decide +kernel
theorem dX6_spare_13 : decode cX6_spare 13 = .ok (.lcmp, 1) := by decide +kernel
theorem dX6_spare_14 : decode cX6_spare 14 = .ok (.ifCond .ge 41, 3) := by decide +kernel
theorem dX6_spare_17 : decode cX6_spare 17 = .ok (.aload_n 0, 1) := by decide +kernel
theorem dX6_spare_18 : decode cX6_spare 18 = .ok (.iload_n 2, 1) := by decide +kernel
theorem dX6_spare_19 : decode cX6_spare 19 = .ok (.invokevirtual 122, 3) := by decide +kernel
theorem dX6_spare_22 : decode cX6_spare 22 = .ok (.iload_n 1, 1) := by decide +kernel
theorem dX6_spare_23 : decode cX6_spare 23 = .ok (.aload_n 0, 1) := by decide +kernel
theorem dX6_spare_24 : decode cX6_spare 24 = .ok (.iload_n 2, 1) := by decide +kernel
theorem dX6_spare_25 : decode cX6_spare 25 = .ok (.invokevirtual 108, 3) := by decide +kernel
theorem dX6_spare_28 : decode cX6_spare 28 = .ok (.ifCond .eq 18, 3) := by decide +kernel
theorem dX6_spare_31 : decode cX6_spare 31 = .ok (.aload_n 0, 1) := by decide +kernel
theorem dX6_spare_32 : decode cX6_spare 32 = .ok (.getfield 114, 3) := by decide +kernel
theorem dX6_spare_35 : decode cX6_spare 35 = .ok (.lconst 0, 1) := by decide +kernel
theorem dX6_spare_36 : decode cX6_spare 36 = .ok (.lcmp, 1) := by decide +kernel
theorem dX6_spare_37 : decode cX6_spare 37 = .ok (.ifCond .eq 9, 3) := by decide +kernel
theorem dX6_spare_40 : decode cX6_spare 40 = .ok (.iconst 1, 1) := by decide +kernel
theorem dX6_spare_41 : decode cX6_spare 41 = .ok (.iload_n 2, 1) := by decide +kernel
theorem dX6_spare_42 : decode cX6_spare 42 = .ok (.ishl, 1) := by decide +kernel
theorem dX6_spare_43 : decode cX6_spare 43 = .ok (.goto 4, 3) := by decide +kernel
theorem dX6_spare_46 : decode cX6_spare 46 = .ok (.iconst 0, 1) := by decide +kernel
theorem dX6_spare_47 : decode cX6_spare 47 = .ok (.ior, 1) := by decide +kernel
theorem dX6_spare_48 : decode cX6_spare 48 = .ok (.istore_n 1, 1) := by decide +kernel
theorem dX6_spare_49 : decode cX6_spare 49 = .ok (.iinc 2 1, 3) := by decide +kernel
theorem dX6_spare_52 : decode cX6_spare 52 = .ok (.goto (-48), 3) := by decide +kernel
theorem dX6_spare_55 : decode cX6_spare 55 = .ok (.iload_n 1, 1) := by decide +kernel
theorem dX6_spare_56 : decode cX6_spare 56 = .ok (.ireturn, 1) := by decide +kernel
set_option maxRecDepth 20000 in
theorem ggX6_gravest_X6_in : GoodIn wsX6_gravest wsX6_in := goodIn_r _ [9] (by decide +kernel) (by decide +kernel)
set_option maxRecDepth 20000 in
theorem gX6_gravest_X6_in : GoodIn wsX6_gravest (va_wsS RX6 67 yX6_in wsX6_in) := goodIn_app (goodIn_of _ (by decide +kernel)) ggX6_gravest_X6_in
set_option maxRecDepth 20000 in
theorem ggX6_gravest_X6_copies : GoodIn wsX6_gravest wsX6_copies := goodIn_r _ [12] (by decide +kernel) (by decide +kernel)
set_option maxRecDepth 20000 in
theorem gX6_gravest_X6_copies : GoodIn wsX6_gravest (va_wsS RX6 179 yX6_copies wsX6_copies) := goodIn_app (goodIn_of _ (by decide +kernel)) ggX6_gravest_X6_copies
set_option maxRecDepth 20000 in
theorem ggX6_gravest_X6_works : GoodIn wsX6_gravest wsX6_works := goodIn_r _ [16, 2, 17, 18, 8, 19, 96, 97, 98, 99, 100, 101, 102, 103, 104, 105, 106] (by decide +kernel) (by decide +kernel)
set_option maxRecDepth 20000 in
theorem gX6_gravest_X6_works : GoodIn wsX6_gravest (wsV RX6 108 RX6 yX6_works wsX6_works) := goodIn_app (goodIn_of _ (by decide +kernel)) ggX6_gravest_X6_works
set_option maxRecDepth 20000 in
theorem ggX6_gravest_X6_wheelAt : GoodIn wsX6_gravest wsX6_wheelAt := goodIn_r _ [19] (by decide +kernel) (by decide +kernel)
set_option maxRecDepth 20000 in
theorem gX6_gravest_X6_wheelAt : GoodIn wsX6_gravest (va_wsS RX6 71 yX6_wheelAt wsX6_wheelAt) := goodIn_app (goodIn_of _ (by decide +kernel)) ggX6_gravest_X6_wheelAt
set_option maxRecDepth 20000 in
theorem ggX6_gravest_X6_passes : GoodIn wsX6_gravest wsX6_passes := goodIn_r _ [23, 2, 24, 25, 26, 27, 8, 28, 29, 30, 31, 32, 33, 34, 35, 36, 37, 38, 39, 40, 41, 42, 4, 43, 44, 45, 46, 47, 48, 49, 50, 51, 52, 53, 54, 55, 13, 14, 15, 16, 17, 18, 19, 56, 57, 58, 59, 60, 61, 62, 63, 64, 65, 66, 67, 68, 69, 70, 71, 72, 73, 74, 75, 76, 77, 78, 79, 80, 81, 82, 83, 84, 85, 86, 87, 88, 89, 90, 91, 92, 96, 97, 98, 99, 100, 101, 102, 103, 104, 105, 106] (by decide +kernel) (by decide +kernel)
set_option maxRecDepth 20000 in
theorem gX6_gravest_X6_passes : GoodIn wsX6_gravest (wsV RX6 162 RX6 yX6_passes wsX6_passes) := goodIn_app (goodIn_of _ (by decide +kernel)) ggX6_gravest_X6_passes
set_option maxRecDepth 20000 in
theorem ggX6_gravest_X6_axisAt : GoodIn wsX6_gravest wsX6_axisAt := goodIn_r _ [28] (by decide +kernel) (by decide +kernel)
set_option maxRecDepth 20000 in
theorem gX6_gravest_X6_axisAt : GoodIn wsX6_gravest (va_wsS RX6 45 yX6_axisAt wsX6_axisAt) := goodIn_app (goodIn_of _ (by decide +kernel)) ggX6_gravest_X6_axisAt
set_option maxRecDepth 20000 in
theorem ggX6_gravest_X6_size : GoodIn wsX6_gravest wsX6_size := goodIn_r _ [95] (by decide +kernel) (by decide +kernel)
set_option maxRecDepth 20000 in
theorem gX6_gravest_X6_size : GoodIn wsX6_gravest (va_wsS RX6 175 yX6_size wsX6_size) := goodIn_app (goodIn_of _ (by decide +kernel)) ggX6_gravest_X6_size
theorem dX6_gravest_0 : decode cX6_gravest 0 = .ok (.iload_n 1, 1) := by decide +kernel
theorem dX6_gravest_1 : decode cX6_gravest 1 = .ok (.iconst 1, 1) := by decide +kernel
theorem dX6_gravest_2 : decode cX6_gravest 2 = .ok (.bipush 100, 2) := by decide +kernel
theorem dX6_gravest_4 : decode cX6_gravest 4 = .ok (.invokestatic 67, 3) := by decide +kernel
theorem dX6_gravest_7 : decode cX6_gravest 7 = .ok (.ifCond .ne 6, 3) := by decide +kernel
theorem dX6_gravest_10 : decode cX6_gravest 10 = .ok (.ldc 80, 2) := by decide +kernel
theorem dX6_gravest_12 : decode cX6_gravest 12 = .ok (.ireturn, 1) := by decide +kernel
theorem dX6_gravest_13 : decode cX6_gravest 13 = .ok (.aload_n 0, 1) := by decide +kernel
theorem dX6_gravest_14 : decode cX6_gravest 14 = .ok (.getfield 7, 3) := by decide +kernel
theorem dX6_gravest_17 : decode cX6_gravest 17 = .ok (.aload_n 0, 1) := by decide +kernel
theorem dX6_gravest_18 : decode cX6_gravest 18 = .ok (.getfield 13, 3) := by decide +kernel
theorem dX6_gravest_21 : decode cX6_gravest 21 = .ok (.invokestatic 179, 3) := by decide +kernel
theorem dX6_gravest_24 : decode cX6_gravest 24 = .ok (.ldc 121, 2) := by decide +kernel
theorem dX6_gravest_26 : decode cX6_gravest 26 = .ok (.istore_n 2, 1) := by decide +kernel
theorem dX6_gravest_27 : decode cX6_gravest 27 = .ok (.ldc2_w 186, 3) := by decide +kernel
theorem dX6_gravest_30 : decode cX6_gravest 30 = .ok (.lstore_n 3, 1) := by decide +kernel
theorem dX6_gravest_31 : decode cX6_gravest 31 = .ok (.iconst 0, 1) := by decide +kernel
theorem dX6_gravest_32 : decode cX6_gravest 32 = .ok (.istore 5, 2) := by decide +kernel
theorem dX6_gravest_34 : decode cX6_gravest 34 = .ok (.iload 5, 2) := by decide +kernel
theorem dX6_gravest_36 : decode cX6_gravest 36 = .ok (.i2l, 1) := by decide +kernel
theorem dX6_gravest_37 : decode cX6_gravest 37 = .ok (.aload_n 0, 1) := by decide +kernel
theorem dX6_gravest_38 : decode cX6_gravest 38 = .ok (.getfield 13, 3) := by decide +kernel
theorem dX6_gravest_41 : decode cX6_gravest 41 = .ok (.bipush 6, 2) := by decide +kernel
theorem dX6_gravest_43 : decode cX6_gravest 43 = .ok (.laload, 1) := by decide +kernel
theorem dX6_gravest_44 : decode cX6_gravest 44 = .ok (.lcmp, 1) := by decide +kernel
theorem dX6_gravest_45 : decode cX6_gravest 45 = .ok (.ifCond .ge 140, 3) := by decide +kernel
theorem dX6_gravest_48 : decode cX6_gravest 48 = .ok (.aload_n 0, 1) := by decide +kernel
theorem dX6_gravest_49 : decode cX6_gravest 49 = .ok (.iload 5, 2) := by decide +kernel
theorem dX6_gravest_51 : decode cX6_gravest 51 = .ok (.invokevirtual 108, 3) := by decide +kernel
theorem dX6_gravest_54 : decode cX6_gravest 54 = .ok (.ifCond .eq 125, 3) := by decide +kernel
theorem dX6_gravest_57 : decode cX6_gravest 57 = .ok (.aload_n 0, 1) := by decide +kernel
theorem dX6_gravest_58 : decode cX6_gravest 58 = .ok (.getfield 7, 3) := by decide +kernel
theorem dX6_gravest_61 : decode cX6_gravest 61 = .ok (.iload 5, 2) := by decide +kernel
theorem dX6_gravest_63 : decode cX6_gravest 63 = .ok (.bipush 6, 2) := by decide +kernel
theorem dX6_gravest_65 : decode cX6_gravest 65 = .ok (.invokestatic 71, 3) := by decide +kernel
theorem dX6_gravest_68 : decode cX6_gravest 68 = .ok (.lconst 1, 1) := by decide +kernel
theorem dX6_gravest_69 : decode cX6_gravest 69 = .ok (.lastore, 1) := by decide +kernel
theorem dX6_gravest_70 : decode cX6_gravest 70 = .ok (.iconst 0, 1) := by decide +kernel
theorem dX6_gravest_71 : decode cX6_gravest 71 = .ok (.istore 6, 2) := by decide +kernel
theorem dX6_gravest_73 : decode cX6_gravest 73 = .ok (.iload 6, 2) := by decide +kernel
theorem dX6_gravest_75 : decode cX6_gravest 75 = .ok (.iload_n 1, 1) := by decide +kernel
theorem dX6_gravest_76 : decode cX6_gravest 76 = .ok (.if_icmp .ge 15, 3) := by decide +kernel
theorem dX6_gravest_79 : decode cX6_gravest 79 = .ok (.aload_n 0, 1) := by decide +kernel
theorem dX6_gravest_80 : decode cX6_gravest 80 = .ok (.invokevirtual 162, 3) := by decide +kernel
theorem dX6_gravest_83 : decode cX6_gravest 83 = .ok (.istore 7, 2) := by decide +kernel
theorem dX6_gravest_85 : decode cX6_gravest 85 = .ok (.iinc 6 1, 3) := by decide +kernel
theorem dX6_gravest_88 : decode cX6_gravest 88 = .ok (.goto (-15), 3) := by decide +kernel
theorem dX6_gravest_91 : decode cX6_gravest 91 = .ok (.lconst 0, 1) := by decide +kernel
theorem dX6_gravest_92 : decode cX6_gravest 92 = .ok (.lstore 6, 2) := by decide +kernel
theorem dX6_gravest_94 : decode cX6_gravest 94 = .ok (.iconst 0, 1) := by decide +kernel
theorem dX6_gravest_95 : decode cX6_gravest 95 = .ok (.istore 8, 2) := by decide +kernel
theorem dX6_gravest_97 : decode cX6_gravest 97 = .ok (.iload 8, 2) := by decide +kernel
theorem dX6_gravest_99 : decode cX6_gravest 99 = .ok (.iconst 3, 1) := by decide +kernel
theorem dX6_gravest_100 : decode cX6_gravest 100 = .ok (.if_icmp .ge 40, 3) := by decide +kernel
theorem dX6_gravest_103 : decode cX6_gravest 103 = .ok (.lload 6, 2) := by decide +kernel
theorem dX6_gravest_105 : decode cX6_gravest 105 = .ok (.aload_n 0, 1) := by decide +kernel
theorem dX6_gravest_106 : decode cX6_gravest 106 = .ok (.getfield 7, 3) := by decide +kernel
theorem dX6_gravest_109 : decode cX6_gravest 109 = .ok (.iload 8, 2) := by decide +kernel
theorem dX6_gravest_111 : decode cX6_gravest 111 = .ok (.iconst 3, 1) := by decide +kernel
theorem dX6_gravest_112 : decode cX6_gravest 112 = .ok (.invokestatic 45, 3) := by decide +kernel
theorem dX6_gravest_115 : decode cX6_gravest 115 = .ok (.laload, 1) := by decide +kernel
theorem dX6_gravest_116 : decode cX6_gravest 116 = .ok (.aload_n 0, 1) := by decide +kernel
theorem dX6_gravest_117 : decode cX6_gravest 117 = .ok (.getfield 7, 3) := by decide +kernel
theorem dX6_gravest_120 : decode cX6_gravest 120 = .ok (.iload 8, 2) := by decide +kernel
theorem dX6_gravest_122 : decode cX6_gravest 122 = .ok (.iconst 0, 1) := by decide +kernel
theorem dX6_gravest_123 : decode cX6_gravest 123 = .ok (.invokestatic 45, 3) := by decide +kernel
theorem dX6_gravest_126 : decode cX6_gravest 126 = .ok (.laload, 1) := by decide +kernel
theorem dX6_gravest_127 : decode cX6_gravest 127 = .ok (.lsub, 1) := by decide +kernel
theorem dX6_gravest_128 : decode cX6_gravest 128 = .ok (.invokestatic 175, 3) := by decide +kernel
theorem dX6_gravest_131 : decode cX6_gravest 131 = .ok (.ladd, 1) := by decide +kernel
theorem dX6_gravest_132 : decode cX6_gravest 132 = .ok (.lstore 6, 2) := by decide +kernel
theorem dX6_gravest_134 : decode cX6_gravest 134 = .ok (.iinc 8 1, 3) := by decide +kernel
theorem dX6_gravest_137 : decode cX6_gravest 137 = .ok (.goto (-40), 3) := by decide +kernel
theorem dX6_gravest_140 : decode cX6_gravest 140 = .ok (.lload 6, 2) := by decide +kernel
theorem dX6_gravest_142 : decode cX6_gravest 142 = .ok (.lload_n 3, 1) := by decide +kernel
theorem dX6_gravest_143 : decode cX6_gravest 143 = .ok (.lcmp, 1) := by decide +kernel
theorem dX6_gravest_144 : decode cX6_gravest 144 = .ok (.ifCond .le 8, 3) := by decide +kernel
theorem dX6_gravest_147 : decode cX6_gravest 147 = .ok (.iload 5, 2) := by decide +kernel
theorem dX6_gravest_149 : decode cX6_gravest 149 = .ok (.goto 4, 3) := by decide +kernel
theorem dX6_gravest_152 : decode cX6_gravest 152 = .ok (.iload_n 2, 1) := by decide +kernel
theorem dX6_gravest_153 : decode cX6_gravest 153 = .ok (.istore_n 2, 1) := by decide +kernel
theorem dX6_gravest_154 : decode cX6_gravest 154 = .ok (.lload 6, 2) := by decide +kernel
theorem dX6_gravest_156 : decode cX6_gravest 156 = .ok (.lload_n 3, 1) := by decide +kernel
theorem dX6_gravest_157 : decode cX6_gravest 157 = .ok (.lcmp, 1) := by decide +kernel
theorem dX6_gravest_158 : decode cX6_gravest 158 = .ok (.ifCond .le 8, 3) := by decide +kernel
theorem dX6_gravest_161 : decode cX6_gravest 161 = .ok (.lload 6, 2) := by decide +kernel
theorem dX6_gravest_163 : decode cX6_gravest 163 = .ok (.goto 4, 3) := by decide +kernel
theorem dX6_gravest_166 : decode cX6_gravest 166 = .ok (.lload_n 3, 1) := by decide +kernel
theorem dX6_gravest_167 : decode cX6_gravest 167 = .ok (.lstore_n 3, 1) := by decide +kernel
theorem dX6_gravest_168 : decode cX6_gravest 168 = .ok (.aload_n 0, 1) := by decide +kernel
theorem dX6_gravest_169 : decode cX6_gravest 169 = .ok (.getfield 13, 3) := by decide +kernel
theorem dX6_gravest_172 : decode cX6_gravest 172 = .ok (.aload_n 0, 1) := by decide +kernel
theorem dX6_gravest_173 : decode cX6_gravest 173 = .ok (.getfield 7, 3) := by decide +kernel
theorem dX6_gravest_176 : decode cX6_gravest 176 = .ok (.invokestatic 179, 3) := by decide +kernel
theorem dX6_gravest_179 : decode cX6_gravest 179 = .ok (.iinc 5 1, 3) := by decide +kernel
theorem dX6_gravest_182 : decode cX6_gravest 182 = .ok (.goto (-148), 3) := by decide +kernel
theorem dX6_gravest_185 : decode cX6_gravest 185 = .ok (.iload_n 2, 1) := by decide +kernel
theorem dX6_gravest_186 : decode cX6_gravest 186 = .ok (.ireturn, 1) := by decide +kernel
theorem dX6_undo_0 : decode cX6_undo 0 = .ok (.aload_n 0, 1) := by decide +kernel
theorem dX6_undo_1 : decode cX6_undo 1 = .ok (.getfield 57, 3) := by decide +kernel
theorem dX6_undo_4 : decode cX6_undo 4 = .ok (.ifCond .ne 6, 3) := by decide +kernel
theorem dX6_undo_7 : decode cX6_undo 7 = .ok (.ldc 121, 2) := by decide +kernel
theorem dX6_undo_9 : decode cX6_undo 9 = .ok (.ireturn, 1) := by decide +kernel
theorem dX6_undo_10 : decode cX6_undo 10 = .ok (.aload_n 0, 1) := by decide +kernel
theorem dX6_undo_11 : decode cX6_undo 11 = .ok (.dup, 1) := by decide +kernel
theorem dX6_undo_12 : decode cX6_undo 12 = .ok (.getfield 57, 3) := by decide +kernel
theorem dX6_undo_15 : decode cX6_undo 15 = .ok (.iconst 1, 1) := by decide +kernel
theorem dX6_undo_16 : decode cX6_undo 16 = .ok (.isub, 1) := by decide +kernel
theorem dX6_undo_17 : decode cX6_undo 17 = .ok (.putfield 57, 3) := by decide +kernel
theorem dX6_undo_20 : decode cX6_undo 20 = .ok (.iconst 0, 1) := by decide +kernel
theorem dX6_undo_21 : decode cX6_undo 21 = .ok (.istore_n 1, 1) := by decide +kernel
theorem dX6_undo_22 : decode cX6_undo 22 = .ok (.iload_n 1, 1) := by decide +kernel
theorem dX6_undo_23 : decode cX6_undo 23 = .ok (.bipush 100, 2) := by decide +kernel
theorem dX6_undo_25 : decode cX6_undo 25 = .ok (.if_icmp .ge 29, 3) := by decide +kernel
theorem dX6_undo_28 : decode cX6_undo 28 = .ok (.aload_n 0, 1) := by decide +kernel
theorem dX6_undo_29 : decode cX6_undo 29 = .ok (.getfield 7, 3) := by decide +kernel
theorem dX6_undo_32 : decode cX6_undo 32 = .ok (.iload_n 1, 1) := by decide +kernel
theorem dX6_undo_33 : decode cX6_undo 33 = .ok (.aload_n 0, 1) := by decide +kernel
theorem dX6_undo_34 : decode cX6_undo 34 = .ok (.getfield 16, 3) := by decide +kernel
theorem dX6_undo_37 : decode cX6_undo 37 = .ok (.bipush 100, 2) := by decide +kernel
theorem dX6_undo_39 : decode cX6_undo 39 = .ok (.aload_n 0, 1) := by decide +kernel
theorem dX6_undo_40 : decode cX6_undo 40 = .ok (.getfield 57, 3) := by decide +kernel
theorem dX6_undo_43 : decode cX6_undo 43 = .ok (.imul, 1) := by decide +kernel
theorem dX6_undo_44 : decode cX6_undo 44 = .ok (.iload_n 1, 1) := by decide +kernel
theorem dX6_undo_45 : decode cX6_undo 45 = .ok (.iadd, 1) := by decide +kernel
theorem dX6_undo_46 : decode cX6_undo 46 = .ok (.laload, 1) := by decide +kernel
theorem dX6_undo_47 : decode cX6_undo 47 = .ok (.lastore, 1) := by decide +kernel
theorem dX6_undo_48 : decode cX6_undo 48 = .ok (.iinc 1 1, 3) := by decide +kernel
theorem dX6_undo_51 : decode cX6_undo 51 = .ok (.goto (-29), 3) := by decide +kernel
theorem dX6_undo_54 : decode cX6_undo 54 = .ok (.aload_n 0, 1) := by decide +kernel
theorem dX6_undo_55 : decode cX6_undo 55 = .ok (.getfield 57, 3) := by decide +kernel
theorem dX6_undo_58 : decode cX6_undo 58 = .ok (.ireturn, 1) := by decide +kernel
set_option maxRecDepth 20000 in
theorem ggX6_fingerprint_X6_told : GoodIn wsX6_fingerprint wsX6_told := goodIn_r _ [11, 2, 12, 13, 10, 14, 15, 16, 17, 18, 19, 20, 21, 22, 23, 24, 25, 26, 27, 28, 42, 43, 44, 45, 46, 47, 48, 49, 50, 51, 52] (by decide +kernel) (by decide +kernel)
set_option maxRecDepth 20000 in
theorem gX6_fingerprint_X6_told : GoodIn wsX6_fingerprint (wsV RX6 168 RX6 yX6_told wsX6_told) := goodIn_app (goodIn_of _ (by decide +kernel)) ggX6_fingerprint_X6_told
set_option maxRecDepth 20000 in
theorem ggX6_fingerprint_X6_wheelAt : GoodIn wsX6_fingerprint wsX6_wheelAt := goodIn_r _ [28] (by decide +kernel) (by decide +kernel)
set_option maxRecDepth 20000 in
theorem gX6_fingerprint_X6_wheelAt : GoodIn wsX6_fingerprint (va_wsS RX6 71 yX6_wheelAt wsX6_wheelAt) := goodIn_app (goodIn_of _ (by decide +kernel)) ggX6_fingerprint_X6_wheelAt
set_option maxRecDepth 20000 in
theorem ggX6_fingerprint_X6_spans : GoodIn wsX6_fingerprint wsX6_spans := goodIn_r _ [32, 33, 2, 34, 5, 35, 36, 37, 10, 38, 26, 27, 28, 39, 40, 41, 42, 43, 44, 45, 46, 47, 48, 49, 50, 51, 52] (by decide +kernel) (by decide +kernel)
set_option maxRecDepth 20000 in
theorem gX6_fingerprint_X6_spans : GoodIn wsX6_fingerprint (wsV RX6 122 RX6 yX6_spans wsX6_spans) := goodIn_app (goodIn_of _ (by decide +kernel)) ggX6_fingerprint_X6_spans
theorem dX6_fingerprint_0 : decode cX6_fingerprint 0 = .ok (.ldc2_w 188, 3) := by decide +kernel
theorem dX6_fingerprint_3 : decode cX6_fingerprint 3 = .ok (.aload_n 0, 1) := by decide +kernel
theorem dX6_fingerprint_4 : decode cX6_fingerprint 4 = .ok (.getfield 7, 3) := by decide +kernel
theorem dX6_fingerprint_7 : decode cX6_fingerprint 7 = .ok (.iconst 5, 1) := by decide +kernel
theorem dX6_fingerprint_8 : decode cX6_fingerprint 8 = .ok (.laload, 1) := by decide +kernel
theorem dX6_fingerprint_9 : decode cX6_fingerprint 9 = .ok (.ladd, 1) := by decide +kernel
theorem dX6_fingerprint_10 : decode cX6_fingerprint 10 = .ok (.lstore_n 1, 1) := by decide +kernel
theorem dX6_fingerprint_11 : decode cX6_fingerprint 11 = .ok (.iconst 0, 1) := by decide +kernel
theorem dX6_fingerprint_12 : decode cX6_fingerprint 12 = .ok (.istore_n 3, 1) := by decide +kernel
theorem dX6_fingerprint_13 : decode cX6_fingerprint 13 = .ok (.iload_n 3, 1) := by decide +kernel
theorem dX6_fingerprint_14 : decode cX6_fingerprint 14 = .ok (.iconst 5, 1) := by decide +kernel
theorem dX6_fingerprint_15 : decode cX6_fingerprint 15 = .ok (.if_icmp .ge 22, 3) := by decide +kernel
theorem dX6_fingerprint_18 : decode cX6_fingerprint 18 = .ok (.ldc2_w 190, 3) := by decide +kernel
theorem dX6_fingerprint_21 : decode cX6_fingerprint 21 = .ok (.lload_n 1, 1) := by decide +kernel
theorem dX6_fingerprint_22 : decode cX6_fingerprint 22 = .ok (.lmul, 1) := by decide +kernel
theorem dX6_fingerprint_23 : decode cX6_fingerprint 23 = .ok (.aload_n 0, 1) := by decide +kernel
theorem dX6_fingerprint_24 : decode cX6_fingerprint 24 = .ok (.getfield 7, 3) := by decide +kernel
theorem dX6_fingerprint_27 : decode cX6_fingerprint 27 = .ok (.iload_n 3, 1) := by decide +kernel
theorem dX6_fingerprint_28 : decode cX6_fingerprint 28 = .ok (.laload, 1) := by decide +kernel
theorem dX6_fingerprint_29 : decode cX6_fingerprint 29 = .ok (.ladd, 1) := by decide +kernel
theorem dX6_fingerprint_30 : decode cX6_fingerprint 30 = .ok (.lstore_n 1, 1) := by decide +kernel
theorem dX6_fingerprint_31 : decode cX6_fingerprint 31 = .ok (.iinc 3 1, 3) := by decide +kernel
theorem dX6_fingerprint_34 : decode cX6_fingerprint 34 = .ok (.goto (-21), 3) := by decide +kernel
theorem dX6_fingerprint_37 : decode cX6_fingerprint 37 = .ok (.iconst 0, 1) := by decide +kernel
theorem dX6_fingerprint_38 : decode cX6_fingerprint 38 = .ok (.istore_n 3, 1) := by decide +kernel
theorem dX6_fingerprint_39 : decode cX6_fingerprint 39 = .ok (.iload_n 3, 1) := by decide +kernel
theorem dX6_fingerprint_40 : decode cX6_fingerprint 40 = .ok (.iconst 3, 1) := by decide +kernel
theorem dX6_fingerprint_41 : decode cX6_fingerprint 41 = .ok (.if_icmp .ge 39, 3) := by decide +kernel
theorem dX6_fingerprint_44 : decode cX6_fingerprint 44 = .ok (.iconst 0, 1) := by decide +kernel
theorem dX6_fingerprint_45 : decode cX6_fingerprint 45 = .ok (.istore 4, 2) := by decide +kernel
theorem dX6_fingerprint_47 : decode cX6_fingerprint 47 = .ok (.iload 4, 2) := by decide +kernel
theorem dX6_fingerprint_49 : decode cX6_fingerprint 49 = .ok (.bipush 10, 2) := by decide +kernel
theorem dX6_fingerprint_51 : decode cX6_fingerprint 51 = .ok (.if_icmp .ge 23, 3) := by decide +kernel
theorem dX6_fingerprint_54 : decode cX6_fingerprint 54 = .ok (.ldc2_w 190, 3) := by decide +kernel
theorem dX6_fingerprint_57 : decode cX6_fingerprint 57 = .ok (.lload_n 1, 1) := by decide +kernel
theorem dX6_fingerprint_58 : decode cX6_fingerprint 58 = .ok (.lmul, 1) := by decide +kernel
theorem dX6_fingerprint_59 : decode cX6_fingerprint 59 = .ok (.aload_n 0, 1) := by decide +kernel
theorem dX6_fingerprint_60 : decode cX6_fingerprint 60 = .ok (.iload_n 3, 1) := by decide +kernel
theorem dX6_fingerprint_61 : decode cX6_fingerprint 61 = .ok (.iload 4, 2) := by decide +kernel
theorem dX6_fingerprint_63 : decode cX6_fingerprint 63 = .ok (.invokevirtual 168, 3) := by decide +kernel
theorem dX6_fingerprint_66 : decode cX6_fingerprint 66 = .ok (.ladd, 1) := by decide +kernel
theorem dX6_fingerprint_67 : decode cX6_fingerprint 67 = .ok (.lstore_n 1, 1) := by decide +kernel
theorem dX6_fingerprint_68 : decode cX6_fingerprint 68 = .ok (.iinc 4 1, 3) := by decide +kernel
theorem dX6_fingerprint_71 : decode cX6_fingerprint 71 = .ok (.goto (-24), 3) := by decide +kernel
theorem dX6_fingerprint_74 : decode cX6_fingerprint 74 = .ok (.iinc 3 1, 3) := by decide +kernel
theorem dX6_fingerprint_77 : decode cX6_fingerprint 77 = .ok (.goto (-38), 3) := by decide +kernel
theorem dX6_fingerprint_80 : decode cX6_fingerprint 80 = .ok (.ldc2_w 190, 3) := by decide +kernel
theorem dX6_fingerprint_83 : decode cX6_fingerprint 83 = .ok (.lload_n 1, 1) := by decide +kernel
theorem dX6_fingerprint_84 : decode cX6_fingerprint 84 = .ok (.lmul, 1) := by decide +kernel
theorem dX6_fingerprint_85 : decode cX6_fingerprint 85 = .ok (.aload_n 0, 1) := by decide +kernel
theorem dX6_fingerprint_86 : decode cX6_fingerprint 86 = .ok (.getfield 7, 3) := by decide +kernel
theorem dX6_fingerprint_89 : decode cX6_fingerprint 89 = .ok (.bipush 6, 2) := by decide +kernel
theorem dX6_fingerprint_91 : decode cX6_fingerprint 91 = .ok (.laload, 1) := by decide +kernel
theorem dX6_fingerprint_92 : decode cX6_fingerprint 92 = .ok (.ladd, 1) := by decide +kernel
theorem dX6_fingerprint_93 : decode cX6_fingerprint 93 = .ok (.lstore_n 1, 1) := by decide +kernel
theorem dX6_fingerprint_94 : decode cX6_fingerprint 94 = .ok (.iconst 0, 1) := by decide +kernel
theorem dX6_fingerprint_95 : decode cX6_fingerprint 95 = .ok (.istore_n 3, 1) := by decide +kernel
theorem dX6_fingerprint_96 : decode cX6_fingerprint 96 = .ok (.iload_n 3, 1) := by decide +kernel
theorem dX6_fingerprint_97 : decode cX6_fingerprint 97 = .ok (.i2l, 1) := by decide +kernel
theorem dX6_fingerprint_98 : decode cX6_fingerprint 98 = .ok (.aload_n 0, 1) := by decide +kernel
theorem dX6_fingerprint_99 : decode cX6_fingerprint 99 = .ok (.getfield 7, 3) := by decide +kernel
theorem dX6_fingerprint_102 : decode cX6_fingerprint 102 = .ok (.bipush 6, 2) := by decide +kernel
theorem dX6_fingerprint_104 : decode cX6_fingerprint 104 = .ok (.laload, 1) := by decide +kernel
theorem dX6_fingerprint_105 : decode cX6_fingerprint 105 = .ok (.lcmp, 1) := by decide +kernel
theorem dX6_fingerprint_106 : decode cX6_fingerprint 106 = .ok (.ifCond .ge 43, 3) := by decide +kernel
theorem dX6_fingerprint_109 : decode cX6_fingerprint 109 = .ok (.iconst 0, 1) := by decide +kernel
theorem dX6_fingerprint_110 : decode cX6_fingerprint 110 = .ok (.istore 4, 2) := by decide +kernel
theorem dX6_fingerprint_112 : decode cX6_fingerprint 112 = .ok (.iload 4, 2) := by decide +kernel
theorem dX6_fingerprint_114 : decode cX6_fingerprint 114 = .ok (.bipush 8, 2) := by decide +kernel
theorem dX6_fingerprint_116 : decode cX6_fingerprint 116 = .ok (.if_icmp .ge 27, 3) := by decide +kernel
theorem dX6_fingerprint_119 : decode cX6_fingerprint 119 = .ok (.ldc2_w 190, 3) := by decide +kernel
theorem dX6_fingerprint_122 : decode cX6_fingerprint 122 = .ok (.lload_n 1, 1) := by decide +kernel
theorem dX6_fingerprint_123 : decode cX6_fingerprint 123 = .ok (.lmul, 1) := by decide +kernel
theorem dX6_fingerprint_124 : decode cX6_fingerprint 124 = .ok (.aload_n 0, 1) := by decide +kernel
theorem dX6_fingerprint_125 : decode cX6_fingerprint 125 = .ok (.getfield 7, 3) := by decide +kernel
theorem dX6_fingerprint_128 : decode cX6_fingerprint 128 = .ok (.iload_n 3, 1) := by decide +kernel
theorem dX6_fingerprint_129 : decode cX6_fingerprint 129 = .ok (.iload 4, 2) := by decide +kernel
theorem dX6_fingerprint_131 : decode cX6_fingerprint 131 = .ok (.invokestatic 71, 3) := by decide +kernel
theorem dX6_fingerprint_134 : decode cX6_fingerprint 134 = .ok (.laload, 1) := by decide +kernel
theorem dX6_fingerprint_135 : decode cX6_fingerprint 135 = .ok (.ladd, 1) := by decide +kernel
theorem dX6_fingerprint_136 : decode cX6_fingerprint 136 = .ok (.lstore_n 1, 1) := by decide +kernel
theorem dX6_fingerprint_137 : decode cX6_fingerprint 137 = .ok (.iinc 4 1, 3) := by decide +kernel
theorem dX6_fingerprint_140 : decode cX6_fingerprint 140 = .ok (.goto (-28), 3) := by decide +kernel
theorem dX6_fingerprint_143 : decode cX6_fingerprint 143 = .ok (.iinc 3 1, 3) := by decide +kernel
theorem dX6_fingerprint_146 : decode cX6_fingerprint 146 = .ok (.goto (-50), 3) := by decide +kernel
theorem dX6_fingerprint_149 : decode cX6_fingerprint 149 = .ok (.aload_n 0, 1) := by decide +kernel
theorem dX6_fingerprint_150 : decode cX6_fingerprint 150 = .ok (.ldc 121, 2) := by decide +kernel
theorem dX6_fingerprint_152 : decode cX6_fingerprint 152 = .ok (.invokevirtual 122, 3) := by decide +kernel
theorem dX6_fingerprint_155 : decode cX6_fingerprint 155 = .ok (.ldc2_w 190, 3) := by decide +kernel
theorem dX6_fingerprint_158 : decode cX6_fingerprint 158 = .ok (.lload_n 1, 1) := by decide +kernel
theorem dX6_fingerprint_159 : decode cX6_fingerprint 159 = .ok (.lmul, 1) := by decide +kernel
theorem dX6_fingerprint_160 : decode cX6_fingerprint 160 = .ok (.aload_n 0, 1) := by decide +kernel
theorem dX6_fingerprint_161 : decode cX6_fingerprint 161 = .ok (.getfield 114, 3) := by decide +kernel
theorem dX6_fingerprint_164 : decode cX6_fingerprint 164 = .ok (.ladd, 1) := by decide +kernel
theorem dX6_fingerprint_165 : decode cX6_fingerprint 165 = .ok (.lstore_n 1, 1) := by decide +kernel
theorem dX6_fingerprint_166 : decode cX6_fingerprint 166 = .ok (.iconst 0, 1) := by decide +kernel
theorem dX6_fingerprint_167 : decode cX6_fingerprint 167 = .ok (.istore_n 3, 1) := by decide +kernel
theorem dX6_fingerprint_168 : decode cX6_fingerprint 168 = .ok (.iload_n 3, 1) := by decide +kernel
theorem dX6_fingerprint_169 : decode cX6_fingerprint 169 = .ok (.iconst 3, 1) := by decide +kernel
theorem dX6_fingerprint_170 : decode cX6_fingerprint 170 = .ok (.if_icmp .ge 45, 3) := by decide +kernel
theorem dX6_fingerprint_173 : decode cX6_fingerprint 173 = .ok (.aload_n 0, 1) := by decide +kernel
theorem dX6_fingerprint_174 : decode cX6_fingerprint 174 = .ok (.getfield 7, 3) := by decide +kernel
theorem dX6_fingerprint_177 : decode cX6_fingerprint 177 = .ok (.bipush 8, 2) := by decide +kernel
theorem dX6_fingerprint_179 : decode cX6_fingerprint 179 = .ok (.iload_n 3, 1) := by decide +kernel
theorem dX6_fingerprint_180 : decode cX6_fingerprint 180 = .ok (.iadd, 1) := by decide +kernel
theorem dX6_fingerprint_181 : decode cX6_fingerprint 181 = .ok (.laload, 1) := by decide +kernel
theorem dX6_fingerprint_182 : decode cX6_fingerprint 182 = .ok (.ldc2_w 51, 3) := by decide +kernel
theorem dX6_fingerprint_185 : decode cX6_fingerprint 185 = .ok (.lcmp, 1) := by decide +kernel
theorem dX6_fingerprint_186 : decode cX6_fingerprint 186 = .ok (.ifCond .ne 7, 3) := by decide +kernel
theorem dX6_fingerprint_189 : decode cX6_fingerprint 189 = .ok (.lload_n 1, 1) := by decide +kernel
theorem dX6_fingerprint_190 : decode cX6_fingerprint 190 = .ok (.goto 18, 3) := by decide +kernel
theorem dX6_fingerprint_193 : decode cX6_fingerprint 193 = .ok (.ldc2_w 190, 3) := by decide +kernel
theorem dX6_fingerprint_196 : decode cX6_fingerprint 196 = .ok (.lload_n 1, 1) := by decide +kernel
theorem dX6_fingerprint_197 : decode cX6_fingerprint 197 = .ok (.lmul, 1) := by decide +kernel
theorem dX6_fingerprint_198 : decode cX6_fingerprint 198 = .ok (.aload_n 0, 1) := by decide +kernel
theorem dX6_fingerprint_199 : decode cX6_fingerprint 199 = .ok (.getfield 7, 3) := by decide +kernel
theorem dX6_fingerprint_202 : decode cX6_fingerprint 202 = .ok (.bipush 8, 2) := by decide +kernel
theorem dX6_fingerprint_204 : decode cX6_fingerprint 204 = .ok (.iload_n 3, 1) := by decide +kernel
theorem dX6_fingerprint_205 : decode cX6_fingerprint 205 = .ok (.iadd, 1) := by decide +kernel
theorem dX6_fingerprint_206 : decode cX6_fingerprint 206 = .ok (.laload, 1) := by decide +kernel
theorem dX6_fingerprint_207 : decode cX6_fingerprint 207 = .ok (.ladd, 1) := by decide +kernel
theorem dX6_fingerprint_208 : decode cX6_fingerprint 208 = .ok (.lstore_n 1, 1) := by decide +kernel
theorem dX6_fingerprint_209 : decode cX6_fingerprint 209 = .ok (.iinc 3 1, 3) := by decide +kernel
theorem dX6_fingerprint_212 : decode cX6_fingerprint 212 = .ok (.goto (-44), 3) := by decide +kernel
theorem dX6_fingerprint_215 : decode cX6_fingerprint 215 = .ok (.lload_n 1, 1) := by decide +kernel
theorem dX6_fingerprint_216 : decode cX6_fingerprint 216 = .ok (.lreturn, 1) := by decide +kernel
theorem dJ9_floorDiv_f86c9_0 : decode cJ9_floorDiv_f86c9 0 = .ok (.lload_n 0, 1) := by decide +kernel
theorem dJ9_floorDiv_f86c9_1 : decode cJ9_floorDiv_f86c9 1 = .ok (.lload_n 2, 1) := by decide +kernel
theorem dJ9_floorDiv_f86c9_2 : decode cJ9_floorDiv_f86c9 2 = .ok (.ldiv, 1) := by decide +kernel
theorem dJ9_floorDiv_f86c9_3 : decode cJ9_floorDiv_f86c9 3 = .ok (.lstore 4, 2) := by decide +kernel
theorem dJ9_floorDiv_f86c9_5 : decode cJ9_floorDiv_f86c9 5 = .ok (.lload_n 0, 1) := by decide +kernel
theorem dJ9_floorDiv_f86c9_6 : decode cJ9_floorDiv_f86c9 6 = .ok (.lload_n 2, 1) := by decide +kernel
theorem dJ9_floorDiv_f86c9_7 : decode cJ9_floorDiv_f86c9 7 = .ok (.lxor, 1) := by decide +kernel
theorem dJ9_floorDiv_f86c9_8 : decode cJ9_floorDiv_f86c9 8 = .ok (.lconst 0, 1) := by decide +kernel
theorem dJ9_floorDiv_f86c9_9 : decode cJ9_floorDiv_f86c9 9 = .ok (.lcmp, 1) := by decide +kernel
theorem dJ9_floorDiv_f86c9_10 : decode cJ9_floorDiv_f86c9 10 = .ok (.ifCond .ge 17, 3) := by decide +kernel
theorem dJ9_floorDiv_f86c9_13 : decode cJ9_floorDiv_f86c9 13 = .ok (.lload 4, 2) := by decide +kernel
theorem dJ9_floorDiv_f86c9_15 : decode cJ9_floorDiv_f86c9 15 = .ok (.lload_n 2, 1) := by decide +kernel
theorem dJ9_floorDiv_f86c9_16 : decode cJ9_floorDiv_f86c9 16 = .ok (.lmul, 1) := by decide +kernel
theorem dJ9_floorDiv_f86c9_17 : decode cJ9_floorDiv_f86c9 17 = .ok (.lload_n 0, 1) := by decide +kernel
theorem dJ9_floorDiv_f86c9_18 : decode cJ9_floorDiv_f86c9 18 = .ok (.lcmp, 1) := by decide +kernel
theorem dJ9_floorDiv_f86c9_19 : decode cJ9_floorDiv_f86c9 19 = .ok (.ifCond .eq 8, 3) := by decide +kernel
theorem dJ9_floorDiv_f86c9_22 : decode cJ9_floorDiv_f86c9 22 = .ok (.lload 4, 2) := by decide +kernel
theorem dJ9_floorDiv_f86c9_24 : decode cJ9_floorDiv_f86c9 24 = .ok (.lconst 1, 1) := by decide +kernel
theorem dJ9_floorDiv_f86c9_25 : decode cJ9_floorDiv_f86c9 25 = .ok (.lsub, 1) := by decide +kernel
theorem dJ9_floorDiv_f86c9_26 : decode cJ9_floorDiv_f86c9 26 = .ok (.lreturn, 1) := by decide +kernel
theorem dJ9_floorDiv_f86c9_27 : decode cJ9_floorDiv_f86c9 27 = .ok (.lload 4, 2) := by decide +kernel
theorem dJ9_floorDiv_f86c9_29 : decode cJ9_floorDiv_f86c9 29 = .ok (.lreturn, 1) := by decide +kernel
theorem dJ9_abs_0f7a4_0 : decode cJ9_abs_0f7a4 0 = .ok (.iload_n 0, 1) := by decide +kernel
theorem dJ9_abs_0f7a4_1 : decode cJ9_abs_0f7a4 1 = .ok (.ifCond .ge 8, 3) := by decide +kernel
theorem dJ9_abs_0f7a4_4 : decode cJ9_abs_0f7a4 4 = .ok (.iload_n 0, 1) := by decide +kernel
theorem dJ9_abs_0f7a4_5 : decode cJ9_abs_0f7a4 5 = .ok (.ineg, 1) := by decide +kernel
theorem dJ9_abs_0f7a4_6 : decode cJ9_abs_0f7a4 6 = .ok (.goto 4, 3) := by decide +kernel
theorem dJ9_abs_0f7a4_9 : decode cJ9_abs_0f7a4 9 = .ok (.iload_n 0, 1) := by decide +kernel
theorem dJ9_abs_0f7a4_10 : decode cJ9_abs_0f7a4 10 = .ok (.ireturn, 1) := by decide +kernel
theorem dJ9_abs_067f4_0 : decode cJ9_abs_067f4 0 = .ok (.lload_n 0, 1) := by decide +kernel
theorem dJ9_abs_067f4_1 : decode cJ9_abs_067f4 1 = .ok (.lconst 0, 1) := by decide +kernel
theorem dJ9_abs_067f4_2 : decode cJ9_abs_067f4 2 = .ok (.lcmp, 1) := by decide +kernel
theorem dJ9_abs_067f4_3 : decode cJ9_abs_067f4 3 = .ok (.ifCond .ge 8, 3) := by decide +kernel
theorem dJ9_abs_067f4_6 : decode cJ9_abs_067f4 6 = .ok (.lload_n 0, 1) := by decide +kernel
theorem dJ9_abs_067f4_7 : decode cJ9_abs_067f4 7 = .ok (.lneg, 1) := by decide +kernel
theorem dJ9_abs_067f4_8 : decode cJ9_abs_067f4 8 = .ok (.goto 4, 3) := by decide +kernel
theorem dJ9_abs_067f4_11 : decode cJ9_abs_067f4 11 = .ok (.lload_n 0, 1) := by decide +kernel
theorem dJ9_abs_067f4_12 : decode cJ9_abs_067f4 12 = .ok (.lreturn, 1) := by decide +kernel
theorem dJ9_max_7cf53_0 : decode cJ9_max_7cf53 0 = .ok (.iload_n 0, 1) := by decide +kernel
theorem dJ9_max_7cf53_1 : decode cJ9_max_7cf53 1 = .ok (.iload_n 1, 1) := by decide +kernel
theorem dJ9_max_7cf53_2 : decode cJ9_max_7cf53 2 = .ok (.if_icmp .lt 7, 3) := by decide +kernel
theorem dJ9_max_7cf53_5 : decode cJ9_max_7cf53 5 = .ok (.iload_n 0, 1) := by decide +kernel
theorem dJ9_max_7cf53_6 : decode cJ9_max_7cf53 6 = .ok (.goto 4, 3) := by decide +kernel
theorem dJ9_max_7cf53_9 : decode cJ9_max_7cf53 9 = .ok (.iload_n 1, 1) := by decide +kernel
theorem dJ9_max_7cf53_10 : decode cJ9_max_7cf53 10 = .ok (.ireturn, 1) := by decide +kernel
theorem dJ9_min_7cf53_0 : decode cJ9_min_7cf53 0 = .ok (.iload_n 0, 1) := by decide +kernel
theorem dJ9_min_7cf53_1 : decode cJ9_min_7cf53 1 = .ok (.iload_n 1, 1) := by decide +kernel
theorem dJ9_min_7cf53_2 : decode cJ9_min_7cf53 2 = .ok (.if_icmp .gt 7, 3) := by decide +kernel
theorem dJ9_min_7cf53_5 : decode cJ9_min_7cf53 5 = .ok (.iload_n 0, 1) := by decide +kernel
theorem dJ9_min_7cf53_6 : decode cJ9_min_7cf53 6 = .ok (.goto 4, 3) := by decide +kernel
theorem dJ9_min_7cf53_9 : decode cJ9_min_7cf53 9 = .ok (.iload_n 1, 1) := by decide +kernel
theorem dJ9_min_7cf53_10 : decode cJ9_min_7cf53 10 = .ok (.ireturn, 1) := by decide +kernel
set_option maxRecDepth 20000 in
theorem ggL_law_X5_init : GoodIn wsL_law wsX5_init := goodIn_r _ [8, 9, 10, 11, 12, 13, 14, 15, 16, 17, 18, 19, 20, 21, 22, 23, 24, 25, 26, 27, 28, 29, 30, 31, 32, 33, 34, 35, 36, 37, 38, 39, 40, 41, 42, 43, 44, 45, 46, 47, 48, 49, 50, 51, 52, 53, 54, 55, 56, 57, 58, 59, 60, 61, 62, 63, 64, 65, 66, 67, 68, 69, 70, 663, 664, 665, 666, 667, 668, 669, 670, 671, 672, 673, 647, 648, 649, 650, 651, 674, 675, 676, 677, 678, 679, 680, 681, 682, 683, 684, 685, 686, 687] (by decide +kernel) (by decide +kernel)
set_option maxRecDepth 20000 in
theorem gL_law_X5_init : GoodIn wsL_law (wsX5_init) := ggL_law_X5_init
set_option maxRecDepth 20000 in
theorem ggL_law_X6_init : GoodIn wsL_law wsX6_init := goodIn_r _ [73, 74, 10, 11, 37, 75, 76, 77, 78, 79, 80, 81, 82, 83, 84, 85, 86, 87, 88, 89, 90, 91, 5, 92, 93, 94, 95, 96, 652, 653, 654, 655, 656, 657, 658, 659, 660, 661, 662] (by decide +kernel) (by decide +kernel)
set_option maxRecDepth 20000 in
theorem gL_law_X6_init : GoodIn wsL_law (wsX6_init) := ggL_law_X6_init
set_option maxRecDepth 20000 in
theorem ggL_law_X5_addWheel : GoodIn wsL_law wsX5_addWheel := goodIn_r _ [100, 101, 102, 103, 15, 104, 105, 28, 106, 107, 108, 2, 109, 110, 111, 112, 113, 114, 115, 27, 116, 117, 69, 118, 119, 120, 121, 122, 123, 124, 14, 125, 126, 34, 127, 128, 129, 130, 36, 38, 39, 40, 41, 131, 43, 44, 47, 132, 133, 134, 46, 135, 51, 136, 137, 138, 139, 140, 141, 142, 143, 144, 145, 647, 648, 649, 650, 651, 663, 664, 665, 666, 667, 668, 669, 670, 671, 672, 673, 680, 681, 682, 683, 684, 685, 686, 687] (by decide +kernel) (by decide +kernel)
set_option maxRecDepth 20000 in
theorem gL_law_X5_addWheel : GoodIn wsL_law (wsV RL 13 RX5 yX5_addWheel wsX5_addWheel) := goodIn_app (goodIn_of _ (by decide +kernel)) ggL_law_X5_addWheel
set_option maxRecDepth 20000 in
theorem ggL_law_X6_addWheel : GoodIn wsL_law wsX6_addWheel := goodIn_r _ [149, 150, 151, 152, 75, 153, 154, 155, 156, 5, 157, 158, 159, 160, 161, 162, 163, 164, 165, 77, 166, 167, 168, 652, 653, 654, 655, 656, 657, 658, 659, 660, 661, 662] (by decide +kernel) (by decide +kernel)
set_option maxRecDepth 20000 in
theorem gL_law_X6_addWheel : GoodIn wsL_law (wsV RL 17 RX6 yX6_addWheel wsX6_addWheel) := goodIn_app (goodIn_of _ (by decide +kernel)) ggL_law_X6_addWheel
set_option maxRecDepth 20000 in
theorem ggL_law_X5_fail : GoodIn wsL_law wsX5_fail := goodIn_r _ [172, 103, 28, 15, 106, 173, 174, 175, 176, 2, 177, 104, 110, 111, 112, 113, 114, 115, 27, 116, 117, 69, 118, 119, 120, 121, 122, 123, 124, 14, 125, 126, 34, 127, 128, 129, 130, 36, 38, 39, 40, 41, 131, 43, 44, 47, 132, 133, 134, 46, 135, 51, 136, 137, 138, 139, 140, 141, 647, 648, 649, 650, 651, 663, 664, 665, 666, 667, 668, 669, 670, 671, 672, 673, 682, 683, 684, 685, 686, 687, 680, 681] (by decide +kernel) (by decide +kernel)
set_option maxRecDepth 20000 in
theorem gL_law_X5_fail : GoodIn wsL_law (wsV RL 18 RX5 yX5_fail wsX5_fail) := goodIn_app (goodIn_of _ (by decide +kernel)) ggL_law_X5_fail
set_option maxRecDepth 20000 in
theorem ggL_law_X6_fail : GoodIn wsL_law wsX6_fail := goodIn_r _ [181, 152, 182, 183, 184, 5, 185, 75, 158, 159, 160, 166, 167, 168, 186, 187, 188, 189, 161, 162, 163, 164, 165, 77, 652, 653, 654, 655, 656, 657, 658, 659, 660, 661, 662] (by decide +kernel) (by decide +kernel)
set_option maxRecDepth 20000 in
theorem gL_law_X6_fail : GoodIn wsL_law (wsV RL 22 RX6 yX6_fail wsX6_fail) := goodIn_app (goodIn_of _ (by decide +kernel)) ggL_law_X6_fail
set_option maxRecDepth 20000 in
theorem ggL_law_X5_setMost : GoodIn wsL_law wsX5_setMost := goodIn_r _ [193, 102, 101, 103, 28, 15, 106, 194, 195, 174, 175, 176, 2, 177, 104, 110, 111, 112, 113, 114, 115, 27, 116, 117, 69, 118, 119, 120, 121, 122, 123, 124, 14, 125, 126, 34, 127, 128, 129, 130, 36, 38, 39, 40, 41, 131, 43, 44, 47, 132, 133, 134, 46, 135, 51, 136, 137, 138, 139, 140, 141, 647, 648, 649, 650, 651, 663, 664, 665, 666, 667, 668, 669, 670, 671, 672, 673, 682, 683, 684, 685, 686, 687, 680, 681] (by decide +kernel) (by decide +kernel)
set_option maxRecDepth 20000 in
theorem gL_law_X5_setMost : GoodIn wsL_law (wsV RL 23 RX5 yX5_setMost wsX5_setMost) := goodIn_app (goodIn_of _ (by decide +kernel)) ggL_law_X5_setMost
set_option maxRecDepth 20000 in
theorem ggL_law_X6_setMost : GoodIn wsL_law wsX6_setMost := goodIn_r _ [199, 151, 150, 152, 182, 183, 184, 5, 185, 75, 158, 159, 160, 166, 167, 168, 186, 187, 188, 189, 161, 162, 163, 164, 165, 77, 652, 653, 654, 655, 656, 657, 658, 659, 660, 661, 662] (by decide +kernel) (by decide +kernel)
set_option maxRecDepth 20000 in
theorem gL_law_X6_setMost : GoodIn wsL_law (wsV RL 27 RX6 yX6_setMost wsX6_setMost) := goodIn_app (goodIn_of _ (by decide +kernel)) ggL_law_X6_setMost
set_option maxRecDepth 20000 in
theorem ggL_law_X5_wheel : GoodIn wsL_law wsX5_wheel := goodIn_r _ [203, 103, 15, 106, 174, 175, 176, 2, 177, 104, 110, 111, 112, 204, 205, 206, 46, 207, 51, 137, 138, 139, 140, 141, 647, 648, 649, 650, 651, 663, 664, 665, 666, 667, 668, 669, 670, 671, 672, 673, 682, 683, 684, 685, 686, 687] (by decide +kernel) (by decide +kernel)
set_option maxRecDepth 20000 in
theorem gL_law_X5_wheel : GoodIn wsL_law (wsV RL 28 RX5 yX5_wheel wsX5_wheel) := goodIn_app (goodIn_of _ (by decide +kernel)) ggL_law_X5_wheel
set_option maxRecDepth 20000 in
theorem ggL_law_X6_wheel : GoodIn wsL_law wsX6_wheel := goodIn_r _ [211, 75, 152, 182, 183, 184, 5, 185, 158, 159, 160, 166, 167, 168, 652, 653, 654, 655, 656, 657, 658, 659, 660, 661, 662] (by decide +kernel) (by decide +kernel)
set_option maxRecDepth 20000 in
theorem gL_law_X6_wheel : GoodIn wsL_law (wsV RL 32 RX6 yX6_wheel wsX6_wheel) := goodIn_app (goodIn_of _ (by decide +kernel)) ggL_law_X6_wheel
set_option maxRecDepth 20000 in
theorem ggL_law_X5_wheels : GoodIn wsL_law wsX5_wheels := goodIn_r _ [215, 15, 104, 647, 648, 649, 650, 651, 663, 664, 665, 666, 667, 668, 669, 670, 671, 672, 673] (by decide +kernel) (by decide +kernel)
set_option maxRecDepth 20000 in
theorem gL_law_X5_wheels : GoodIn wsL_law (wsV RL 33 RX5 yX5_wheels wsX5_wheels) := goodIn_app (goodIn_of _ (by decide +kernel)) ggL_law_X5_wheels
set_option maxRecDepth 20000 in
theorem ggL_law_X6_wheels : GoodIn wsL_law wsX6_wheels := goodIn_r _ [219, 75, 652, 653, 654, 655, 656, 657, 658, 659, 660, 661, 662] (by decide +kernel) (by decide +kernel)
set_option maxRecDepth 20000 in
theorem gL_law_X6_wheels : GoodIn wsL_law (wsV RL 37 RX6 yX6_wheels wsX6_wheels) := goodIn_app (goodIn_of _ (by decide +kernel)) ggL_law_X6_wheels
set_option maxRecDepth 20000 in
theorem ggL_law_X5_setAxis : GoodIn wsL_law wsX5_setAxis := goodIn_r _ [223, 224, 225, 103, 28, 15, 226, 227, 228, 2, 229, 110, 111, 112, 113, 114, 115, 27, 116, 117, 69, 118, 119, 120, 121, 122, 123, 124, 14, 125, 126, 34, 127, 128, 129, 130, 36, 38, 39, 40, 41, 131, 43, 44, 47, 132, 133, 134, 46, 135, 51, 136, 137, 138, 139, 140, 141, 647, 648, 649, 650, 651, 663, 664, 665, 666, 667, 668, 669, 670, 671, 672, 673, 680, 681, 682, 683, 684, 685, 686, 687] (by decide +kernel) (by decide +kernel)
set_option maxRecDepth 20000 in
theorem gL_law_X5_setAxis : GoodIn wsL_law (wsV RL 38 RX5 yX5_setAxis wsX5_setAxis) := goodIn_app (goodIn_of _ (by decide +kernel)) ggL_law_X5_setAxis
set_option maxRecDepth 20000 in
theorem ggL_law_X6_setAxis : GoodIn wsL_law wsX6_setAxis := goodIn_r _ [233, 234, 150, 152, 158, 159, 5, 160, 235, 236, 237, 90, 91, 92, 186, 187, 188, 189, 75, 161, 162, 163, 164, 165, 77, 652, 653, 654, 655, 656, 657, 658, 659, 660, 661, 662] (by decide +kernel) (by decide +kernel)
set_option maxRecDepth 20000 in
theorem gL_law_X6_setAxis : GoodIn wsL_law (wsV RL 42 RX6 yX6_setAxis wsX6_setAxis) := goodIn_app (goodIn_of _ (by decide +kernel)) ggL_law_X6_setAxis
set_option maxRecDepth 20000 in
theorem ggL_law_X5_set : GoodIn wsL_law wsX5_set := goodIn_r _ [241, 242, 243, 103, 28, 15, 244, 110, 111, 2, 112, 113, 114, 115, 27, 116, 117, 69, 118, 119, 120, 121, 122, 123, 124, 14, 125, 126, 34, 127, 128, 129, 130, 36, 38, 39, 40, 41, 131, 43, 44, 47, 132, 133, 134, 46, 135, 51, 136, 137, 138, 139, 140, 141, 647, 648, 649, 650, 651, 663, 664, 665, 666, 667, 668, 669, 670, 671, 672, 673, 680, 681, 682, 683, 684, 685, 686, 687] (by decide +kernel) (by decide +kernel)
set_option maxRecDepth 20000 in
theorem gL_law_X5_set : GoodIn wsL_law (wsV RL 43 RX5 yX5_set wsX5_set) := goodIn_app (goodIn_of _ (by decide +kernel)) ggL_law_X5_set
set_option maxRecDepth 20000 in
theorem ggL_law_X6_set : GoodIn wsL_law wsX6_set := goodIn_r _ [248, 151, 152, 158, 159, 5, 160, 186, 187, 188, 189, 75, 161, 162, 163, 164, 165, 77, 652, 653, 654, 655, 656, 657, 658, 659, 660, 661, 662] (by decide +kernel) (by decide +kernel)
set_option maxRecDepth 20000 in
theorem gL_law_X6_set : GoodIn wsL_law (wsV RL 46 RX6 yX6_set wsX6_set) := goodIn_app (goodIn_of _ (by decide +kernel)) ggL_law_X6_set
set_option maxRecDepth 20000 in
theorem ggL_law_X5_setting : GoodIn wsL_law wsX5_setting := goodIn_r _ [252, 15, 244, 103, 110, 111, 2, 112, 647, 648, 649, 650, 651, 663, 664, 665, 666, 667, 668, 669, 670, 671, 672, 673] (by decide +kernel) (by decide +kernel)
set_option maxRecDepth 20000 in
theorem gL_law_X5_setting : GoodIn wsL_law (wsV RL 47 RX5 yX5_setting wsX5_setting) := goodIn_app (goodIn_of _ (by decide +kernel)) ggL_law_X5_setting
set_option maxRecDepth 20000 in
theorem ggL_law_X6_setting : GoodIn wsL_law wsX6_setting := goodIn_r _ [256, 75, 152, 158, 159, 5, 160, 652, 653, 654, 655, 656, 657, 658, 659, 660, 661, 662] (by decide +kernel) (by decide +kernel)
set_option maxRecDepth 20000 in
theorem gL_law_X6_setting : GoodIn wsL_law (wsV RL 51 RX6 yX6_setting wsX6_setting) := goodIn_app (goodIn_of _ (by decide +kernel)) ggL_law_X6_setting
set_option maxRecDepth 20000 in
theorem ggL_law_X5_strike : GoodIn wsL_law wsX5_strike := goodIn_r _ [260, 261, 102, 262, 28, 15, 227, 228, 2, 229, 110, 111, 112, 113, 114, 115, 27, 116, 117, 69, 118, 119, 120, 121, 122, 123, 124, 14, 125, 126, 34, 127, 128, 129, 130, 36, 38, 39, 40, 41, 131, 43, 44, 47, 132, 133, 134, 46, 135, 51, 136, 137, 138, 139, 140, 141, 263, 264, 265, 266, 267, 268, 269, 270, 271, 272, 273, 274, 275, 276, 647, 648, 649, 650, 651, 680, 681, 663, 664, 665, 666, 667, 668, 669, 670, 671, 672, 673, 682, 683, 684, 685, 686, 687] (by decide +kernel) (by decide +kernel)
set_option maxRecDepth 20000 in
theorem gL_law_X5_strike : GoodIn wsL_law (wsV RL 52 RX5 yX5_strike wsX5_strike) := goodIn_app (goodIn_of _ (by decide +kernel)) ggL_law_X5_strike
set_option maxRecDepth 20000 in
theorem ggL_law_X6_strike : GoodIn wsL_law wsX6_strike := goodIn_r _ [280, 281, 151, 282, 235, 236, 5, 237, 158, 159, 160, 161, 162, 163, 164, 165, 77, 75, 283, 284, 285, 286, 90, 91, 92, 287, 288, 289, 290, 291, 292, 293, 652, 653, 654, 655, 656, 657, 658, 659, 660, 661, 662] (by decide +kernel) (by decide +kernel)
set_option maxRecDepth 20000 in
theorem gL_law_X6_strike : GoodIn wsL_law (wsV RL 56 RX6 yX6_strike wsX6_strike) := goodIn_app (goodIn_of _ (by decide +kernel)) ggL_law_X6_strike
set_option maxRecDepth 20000 in
theorem ggL_law_X5_tick : GoodIn wsL_law wsX5_tick := goodIn_r _ [297, 103, 15, 298, 299, 300, 28, 20, 301, 110, 111, 2, 112, 113, 114, 115, 27, 116, 117, 69, 118, 119, 120, 121, 122, 123, 124, 14, 125, 126, 34, 127, 128, 129, 130, 36, 38, 39, 40, 41, 131, 43, 44, 47, 132, 133, 134, 46, 135, 51, 136, 137, 138, 139, 140, 141, 302, 303, 304, 19, 305, 56, 306, 307, 308, 309, 310, 57, 311, 312, 313, 314, 315, 316, 317, 318, 319, 320, 321, 322, 323, 324, 24, 325, 326, 327, 328, 329, 271, 272, 273, 274, 275, 276, 330, 331, 332, 268, 269, 270, 333, 334, 335, 336, 337, 338, 339, 340, 341, 342, 343, 344, 345, 346, 347, 348, 349, 350, 351, 352, 353, 354, 355, 58, 356, 357, 358, 359, 360, 361, 362, 363, 364, 365, 366, 367, 368, 369, 370, 371, 372, 373, 374, 375, 376, 377, 378, 379, 380, 381, 382, 383, 384, 385, 386, 387, 388, 389, 390, 391, 392, 393, 23, 394, 395, 396, 62, 63, 397, 398, 399, 400, 401, 402, 403, 404, 405, 406, 407, 408, 264, 265, 266, 409, 410, 411, 412, 413, 414, 415, 416, 417, 418, 647, 648, 649, 650, 651, 663, 664, 665, 666, 667, 668, 669, 670, 671, 672, 673, 680, 681, 682, 683, 684, 685, 686, 687, 674, 675, 676, 677, 678, 679] (by decide +kernel) (by decide +kernel)
set_option maxRecDepth 20000 in
theorem gL_law_X5_tick : GoodIn wsL_law (wsV RL 57 RX5 yX5_tick wsX5_tick) := goodIn_app (goodIn_of _ (by decide +kernel)) ggL_law_X5_tick
set_option maxRecDepth 20000 in
theorem ggL_law_X6_tick : GoodIn wsL_law wsX6_tick := goodIn_r _ [422, 152, 75, 423, 424, 158, 159, 5, 160, 161, 162, 163, 164, 165, 77, 425, 426, 427, 428, 88, 80, 90, 91, 92, 291, 292, 293, 429, 430, 431, 287, 288, 289, 290, 432, 433, 434, 435, 436, 437, 89, 84, 438, 439, 440, 441, 442, 443, 444, 445, 78, 79, 446, 447, 448, 449, 166, 167, 168, 450, 451, 452, 93, 94, 95, 96, 453, 454, 455, 456, 457, 458, 459, 460, 461, 462, 463, 464, 465, 466, 467, 468, 469, 470, 471, 82, 81, 83, 472, 473, 474, 475, 283, 284, 285, 286, 652, 653, 654, 655, 656, 657, 658, 659, 660, 661, 662] (by decide +kernel) (by decide +kernel)
set_option maxRecDepth 20000 in
theorem gL_law_X6_tick : GoodIn wsL_law (wsV RL 60 RX6 yX6_tick wsX6_tick) := goodIn_app (goodIn_of _ (by decide +kernel)) ggL_law_X6_tick
set_option maxRecDepth 20000 in
theorem ggL_law_X5_time : GoodIn wsL_law wsX5_time := goodIn_r _ [479, 15, 298, 647, 648, 649, 650, 651, 663, 664, 665, 666, 667, 668, 669, 670, 671, 672, 673] (by decide +kernel) (by decide +kernel)
set_option maxRecDepth 20000 in
theorem gL_law_X5_time : GoodIn wsL_law (wsV RL 61 RX5 yX5_time wsX5_time) := goodIn_app (goodIn_of _ (by decide +kernel)) ggL_law_X5_time
set_option maxRecDepth 20000 in
theorem ggL_law_X6_time : GoodIn wsL_law wsX6_time := goodIn_r _ [483, 75, 652, 653, 654, 655, 656, 657, 658, 659, 660, 661, 662] (by decide +kernel) (by decide +kernel)
set_option maxRecDepth 20000 in
theorem gL_law_X6_time : GoodIn wsL_law (wsV RL 64 RX6 yX6_time wsX6_time) := goodIn_app (goodIn_of _ (by decide +kernel)) ggL_law_X6_time
set_option maxRecDepth 20000 in
theorem ggL_law_X5_axis : GoodIn wsL_law wsX5_axis := goodIn_r _ [487, 262, 15, 227, 228, 2, 229, 110, 111, 112, 488, 489, 490, 14, 491, 38, 39, 40, 41, 36, 492, 332, 268, 269, 270, 271, 272, 273, 274, 275, 276, 493, 400, 401, 402, 131, 43, 403, 404, 647, 648, 649, 650, 651, 663, 664, 665, 666, 667, 668, 669, 670, 671, 672, 673, 682, 683, 684, 685, 686, 687] (by decide +kernel) (by decide +kernel)
set_option maxRecDepth 20000 in
theorem gL_law_X5_axis : GoodIn wsL_law (wsV RL 65 RX5 yX5_axis wsX5_axis) := goodIn_app (goodIn_of _ (by decide +kernel)) ggL_law_X5_axis
set_option maxRecDepth 20000 in
theorem ggL_law_X6_axis : GoodIn wsL_law wsX6_axis := goodIn_r _ [497, 282, 235, 236, 5, 237, 158, 159, 160, 498, 499, 500, 501, 75, 90, 91, 92, 287, 288, 289, 290, 291, 292, 293, 502, 503, 504, 505, 166, 167, 168, 652, 653, 654, 655, 656, 657, 658, 659, 660, 661, 662] (by decide +kernel) (by decide +kernel)
set_option maxRecDepth 20000 in
theorem gL_law_X6_axis : GoodIn wsL_law (wsV RL 68 RX6 yX6_axis wsX6_axis) := goodIn_app (goodIn_of _ (by decide +kernel)) ggL_law_X6_axis
set_option maxRecDepth 20000 in
theorem ggL_law_X5_span : GoodIn wsL_law wsX5_span := goodIn_r _ [509, 20, 15, 301, 510, 302, 303, 304, 19, 305, 56, 306, 307, 308, 309, 310, 57, 311, 312, 313, 314, 315, 316, 317, 318, 319, 2, 320, 647, 648, 649, 650, 651, 674, 675, 676, 677, 663, 664, 665, 666, 667, 668, 669, 670, 671, 672, 673, 682, 683, 684, 685, 686, 687] (by decide +kernel) (by decide +kernel)
set_option maxRecDepth 20000 in
theorem gL_law_X5_span : GoodIn wsL_law (wsV RL 69 RX5 yX5_span wsX5_span) := goodIn_app (goodIn_of _ (by decide +kernel)) ggL_law_X5_span
set_option maxRecDepth 20000 in
theorem ggL_law_X6_span : GoodIn wsL_law wsX6_span := goodIn_r _ [514, 436, 437, 442, 443, 444, 5, 445, 78, 75, 79, 446, 447, 448, 449, 166, 167, 168, 450, 451, 452, 652, 653, 654, 655, 656, 657, 658, 659, 660, 661, 662] (by decide +kernel) (by decide +kernel)
set_option maxRecDepth 20000 in
theorem gL_law_X6_span : GoodIn wsL_law (wsV RL 73 RX6 yX6_span wsX6_span) := goodIn_app (goodIn_of _ (by decide +kernel)) ggL_law_X6_span
set_option maxRecDepth 20000 in
theorem ggL_law_X5_wish : GoodIn wsL_law wsX5_wish := goodIn_r _ [518, 262, 15, 106, 20, 301, 173, 174, 175, 176, 2, 177, 104, 110, 111, 112, 519, 520, 521, 261, 102, 302, 303, 304, 19, 305, 56, 306, 307, 308, 309, 310, 57, 311, 312, 313, 314, 315, 316, 317, 318, 319, 320, 522, 340, 341, 342, 523, 353, 354, 355, 58, 524, 363, 364, 365, 366, 339, 367, 274, 275, 276, 647, 648, 649, 650, 651, 663, 664, 665, 666, 667, 668, 669, 670, 671, 672, 673, 682, 683, 684, 685, 686, 687, 674, 675, 676, 677] (by decide +kernel) (by decide +kernel)
set_option maxRecDepth 20000 in
theorem gL_law_X5_wish : GoodIn wsL_law (wsV RL 74 RX5 yX5_wish wsX5_wish) := goodIn_app (goodIn_of _ (by decide +kernel)) ggL_law_X5_wish
set_option maxRecDepth 20000 in
theorem ggL_law_X6_wish : GoodIn wsL_law wsX6_wish := goodIn_r _ [528, 282, 436, 437, 182, 183, 184, 5, 185, 75, 158, 159, 160, 446, 447, 448, 449, 166, 167, 168, 529, 530, 531, 281, 151, 442, 443, 444, 445, 78, 79, 450, 451, 452, 453, 454, 455, 456, 457, 458, 459, 438, 291, 292, 293, 652, 653, 654, 655, 656, 657, 658, 659, 660, 661, 662] (by decide +kernel) (by decide +kernel)
set_option maxRecDepth 20000 in
theorem gL_law_X6_wish : GoodIn wsL_law (wsV RL 78 RX6 yX6_wish wsX6_wish) := goodIn_app (goodIn_of _ (by decide +kernel)) ggL_law_X6_wish
set_option maxRecDepth 20000 in
theorem ggL_law_X5_why : GoodIn wsL_law wsX5_why := goodIn_r _ [535, 103, 15, 536, 537, 301, 647, 648, 649, 650, 651, 663, 664, 665, 666, 667, 668, 669, 670, 671, 672, 673] (by decide +kernel) (by decide +kernel)
set_option maxRecDepth 20000 in
theorem gL_law_X5_why : GoodIn wsL_law (wsV RL 79 RX5 yX5_why wsX5_why) := goodIn_app (goodIn_of _ (by decide +kernel)) ggL_law_X5_why
set_option maxRecDepth 20000 in
theorem ggL_law_X6_why : GoodIn wsL_law wsX6_why := goodIn_r _ [541, 152, 436, 75, 652, 653, 654, 655, 656, 657, 658, 659, 660, 661, 662] (by decide +kernel) (by decide +kernel)
set_option maxRecDepth 20000 in
theorem gL_law_X6_why : GoodIn wsL_law (wsV RL 82 RX6 yX6_why wsX6_why) := goodIn_app (goodIn_of _ (by decide +kernel)) ggL_law_X6_why
set_option maxRecDepth 20000 in
theorem ggL_law_X5_fullness : GoodIn wsL_law wsX5_fullness := goodIn_r _ [545, 15, 104, 106, 546, 547, 548, 46, 549, 138, 137, 550, 551, 378, 552, 647, 648, 649, 650, 651, 663, 664, 665, 666, 667, 668, 669, 670, 671, 672, 673, 682, 683, 684, 685, 686, 687] (by decide +kernel) (by decide +kernel)
set_option maxRecDepth 20000 in
theorem gL_law_X5_fullness : GoodIn wsL_law (wsV RL 83 RX5 yX5_fullness wsX5_fullness) := goodIn_app (goodIn_of _ (by decide +kernel)) ggL_law_X5_fullness
set_option maxRecDepth 20000 in
theorem ggL_law_X6_fullness : GoodIn wsL_law wsX6_fullness := goodIn_r _ [556, 75, 166, 167, 5, 168, 557, 558, 559, 652, 653, 654, 655, 656, 657, 658, 659, 660, 661, 662] (by decide +kernel) (by decide +kernel)
set_option maxRecDepth 20000 in
theorem gL_law_X6_fullness : GoodIn wsL_law (wsV RL 87 RX6 yX6_fullness wsX6_fullness) := goodIn_app (goodIn_of _ (by decide +kernel)) ggL_law_X6_fullness
set_option maxRecDepth 20000 in
theorem ggL_law_X5_arrives : GoodIn wsL_law wsX5_arrives := goodIn_r _ [563, 101, 103, 16, 15, 20, 301, 110, 111, 2, 112, 564, 123, 124, 14, 125, 126, 34, 127, 128, 129, 130, 36, 38, 39, 40, 41, 131, 43, 44, 47, 132, 133, 134, 46, 135, 51, 136, 137, 138, 139, 140, 141, 302, 303, 304, 19, 305, 56, 306, 307, 308, 309, 310, 57, 311, 312, 313, 314, 315, 316, 317, 318, 319, 320, 565, 566, 567, 568, 569, 570, 378, 571, 572, 573, 574, 575, 332, 268, 269, 270, 271, 272, 273, 274, 275, 276, 321, 322, 323, 324, 298, 24, 325, 326, 327, 328, 329, 330, 331, 333, 334, 335, 336, 337, 338, 339, 340, 341, 342, 343, 344, 345, 346, 347, 348, 349, 350, 351, 352, 353, 354, 355, 58, 356, 357, 358, 359, 360, 361, 362, 363, 364, 365, 366, 367, 368, 369, 370, 371, 372, 373, 374, 375, 376, 377, 379, 380, 381, 382, 383, 384, 385, 386, 387, 388, 389, 390, 391, 392, 393, 23, 394, 395, 396, 62, 63, 397, 398, 399, 400, 401, 402, 403, 404, 405, 406, 407, 408, 264, 265, 266, 409, 410, 411, 412, 413, 414, 415, 416, 417, 647, 648, 649, 650, 651, 663, 664, 665, 666, 667, 668, 669, 670, 671, 672, 673, 682, 683, 684, 685, 686, 687, 674, 675, 676, 677, 678, 679] (by decide +kernel) (by decide +kernel)
set_option maxRecDepth 20000 in
theorem gL_law_X5_arrives : GoodIn wsL_law (wsV RL 88 RX5 yX5_arrives wsX5_arrives) := goodIn_app (goodIn_of _ (by decide +kernel)) ggL_law_X5_arrives
set_option maxRecDepth 20000 in
theorem ggL_law_X6_arrives : GoodIn wsL_law wsX6_arrives := goodIn_r _ [579, 150, 152, 75, 76, 436, 158, 159, 5, 160, 580, 581, 582, 583, 584, 585, 586, 90, 91, 92, 557, 558, 559, 287, 288, 289, 290, 291, 292, 293, 425, 426, 427, 428, 88, 80, 429, 430, 431, 432, 433, 434, 435, 437, 89, 84, 438, 439, 440, 441, 442, 443, 444, 445, 78, 79, 446, 447, 448, 449, 166, 167, 168, 450, 451, 452, 93, 94, 95, 96, 453, 454, 455, 456, 457, 458, 459, 460, 461, 462, 463, 464, 465, 466, 467, 468, 469, 470, 471, 82, 81, 83, 472, 473, 474, 475, 283, 284, 285, 286, 652, 653, 654, 655, 656, 657, 658, 659, 660, 661, 662] (by decide +kernel) (by decide +kernel)
set_option maxRecDepth 20000 in
theorem gL_law_X6_arrives : GoodIn wsL_law (wsV RL 91 RX6 yX6_arrives wsX6_arrives) := goodIn_app (goodIn_of _ (by decide +kernel)) ggL_law_X6_arrives
set_option maxRecDepth 20000 in
theorem ggL_law_X5_spare : GoodIn wsL_law wsX5_spare := goodIn_r _ [590, 15, 104, 20, 106, 173, 302, 303, 304, 19, 305, 56, 306, 307, 308, 309, 310, 57, 311, 312, 313, 314, 315, 316, 317, 318, 319, 2, 320, 522, 340, 341, 342, 647, 648, 649, 650, 651, 663, 664, 665, 666, 667, 668, 669, 670, 671, 672, 673, 682, 683, 684, 685, 686, 687, 674, 675, 676, 677] (by decide +kernel) (by decide +kernel)
set_option maxRecDepth 20000 in
theorem gL_law_X5_spare : GoodIn wsL_law (wsV RL 92 RX5 yX5_spare wsX5_spare) := goodIn_app (goodIn_of _ (by decide +kernel)) ggL_law_X5_spare
set_option maxRecDepth 20000 in
theorem ggL_law_X6_spare : GoodIn wsL_law wsX6_spare := goodIn_r _ [594, 75, 437, 442, 443, 444, 5, 445, 78, 79, 446, 447, 448, 449, 166, 167, 168, 450, 451, 452, 652, 653, 654, 655, 656, 657, 658, 659, 660, 661, 662] (by decide +kernel) (by decide +kernel)
set_option maxRecDepth 20000 in
theorem gL_law_X6_spare : GoodIn wsL_law (wsV RL 95 RX6 yX6_spare wsX6_spare) := goodIn_app (goodIn_of _ (by decide +kernel)) ggL_law_X6_spare
set_option maxRecDepth 20000 in
theorem ggL_law_X5_gravest : GoodIn wsL_law wsX5_gravest := goodIn_r _ [598, 103, 301, 15, 104, 106, 173, 110, 111, 2, 112, 599, 600, 601, 602, 16, 20, 564, 123, 124, 14, 125, 126, 34, 127, 128, 129, 130, 36, 38, 39, 40, 41, 131, 43, 44, 47, 132, 133, 134, 46, 135, 51, 136, 137, 138, 139, 140, 141, 302, 303, 304, 19, 305, 56, 306, 307, 308, 309, 310, 57, 311, 312, 313, 314, 315, 316, 317, 318, 319, 320, 321, 322, 323, 324, 298, 24, 325, 326, 327, 328, 329, 271, 272, 273, 274, 275, 276, 330, 331, 332, 268, 269, 270, 333, 334, 335, 336, 337, 338, 339, 340, 341, 342, 343, 344, 345, 346, 347, 348, 349, 350, 351, 352, 353, 354, 355, 58, 356, 357, 358, 359, 360, 361, 362, 363, 364, 365, 366, 367, 368, 369, 370, 371, 372, 373, 374, 375, 376, 377, 378, 379, 380, 381, 382, 383, 384, 385, 386, 387, 388, 389, 390, 391, 392, 393, 23, 394, 395, 396, 62, 63, 397, 398, 399, 400, 401, 402, 403, 404, 405, 406, 407, 408, 264, 265, 266, 409, 410, 411, 412, 413, 414, 415, 416, 417, 603, 604, 605, 606, 572, 573, 574, 575, 569, 570, 571, 647, 648, 649, 650, 651, 663, 664, 665, 666, 667, 668, 669, 670, 671, 672, 673, 682, 683, 684, 685, 686, 687, 674, 675, 676, 677, 678, 679] (by decide +kernel) (by decide +kernel)
set_option maxRecDepth 20000 in
theorem gL_law_X5_gravest : GoodIn wsL_law (wsV RL 96 RX5 yX5_gravest wsX5_gravest) := goodIn_app (goodIn_of _ (by decide +kernel)) ggL_law_X5_gravest
set_option maxRecDepth 20000 in
theorem ggL_law_X6_gravest : GoodIn wsL_law wsX6_gravest := goodIn_r _ [610, 152, 75, 76, 436, 611, 158, 159, 5, 160, 580, 581, 582, 446, 447, 448, 449, 166, 167, 168, 425, 426, 427, 428, 88, 80, 90, 91, 92, 291, 292, 293, 429, 430, 431, 287, 288, 289, 290, 432, 433, 434, 435, 437, 89, 84, 438, 439, 440, 441, 442, 443, 444, 445, 78, 79, 450, 451, 452, 93, 94, 95, 96, 453, 454, 455, 456, 457, 458, 459, 460, 461, 462, 463, 464, 465, 466, 467, 468, 469, 470, 471, 82, 81, 83, 472, 473, 474, 475, 283, 284, 285, 286, 557, 558, 559, 652, 653, 654, 655, 656, 657, 658, 659, 660, 661, 662] (by decide +kernel) (by decide +kernel)
set_option maxRecDepth 20000 in
theorem gL_law_X6_gravest : GoodIn wsL_law (wsV RL 99 RX6 yX6_gravest wsX6_gravest) := goodIn_app (goodIn_of _ (by decide +kernel)) ggL_law_X6_gravest
set_option maxRecDepth 20000 in
theorem ggL_law_X5_undo : GoodIn wsL_law wsX5_undo := goodIn_r _ [615, 28, 15, 616, 617, 618, 27, 619, 117, 620, 69, 122, 123, 124, 14, 125, 126, 34, 127, 128, 129, 130, 36, 38, 39, 40, 41, 131, 43, 44, 47, 132, 133, 134, 46, 135, 51, 136, 137, 138, 139, 140, 141, 647, 648, 649, 650, 651, 680, 681, 663, 664, 665, 666, 667, 668, 669, 670, 671, 672, 673, 682, 683, 684, 685, 686, 687] (by decide +kernel) (by decide +kernel)
set_option maxRecDepth 20000 in
theorem gL_law_X5_undo : GoodIn wsL_law (wsV RL 100 RX5 yX5_undo wsX5_undo) := goodIn_app (goodIn_of _ (by decide +kernel)) ggL_law_X5_undo
set_option maxRecDepth 20000 in
theorem ggL_law_X6_undo : GoodIn wsL_law wsX6_undo := goodIn_r _ [624, 165, 436, 75, 77, 652, 653, 654, 655, 656, 657, 658, 659, 660, 661, 662] (by decide +kernel) (by decide +kernel)
set_option maxRecDepth 20000 in
theorem gL_law_X6_undo : GoodIn wsL_law (wsV RL 103 RX6 yX6_undo wsX6_undo) := goodIn_app (goodIn_of _ (by decide +kernel)) ggL_law_X6_undo
set_option maxRecDepth 20000 in
theorem ggL_law_X5_fingerprint : GoodIn wsL_law wsX5_fingerprint := goodIn_r _ [628, 629, 15, 104, 536, 630, 477, 478, 2, 479, 298, 631, 632, 633, 634, 635, 250, 251, 252, 244, 103, 110, 111, 112, 636, 485, 486, 487, 262, 227, 228, 229, 488, 489, 490, 14, 491, 38, 39, 40, 41, 36, 492, 332, 268, 269, 270, 271, 272, 273, 274, 275, 276, 493, 400, 401, 402, 131, 43, 403, 404, 637, 213, 214, 215, 638, 201, 202, 203, 106, 174, 175, 176, 177, 204, 205, 206, 46, 207, 51, 137, 138, 139, 140, 141, 639, 507, 508, 509, 20, 301, 510, 302, 303, 304, 19, 305, 56, 306, 307, 308, 309, 310, 57, 311, 312, 313, 314, 315, 316, 317, 318, 319, 320, 640, 533, 534, 535, 537, 647, 648, 649, 650, 651, 663, 664, 665, 666, 667, 668, 669, 670, 671, 672, 673, 682, 683, 684, 685, 686, 687, 674, 675, 676, 677] (by decide +kernel) (by decide +kernel)
set_option maxRecDepth 20000 in
theorem gL_law_X5_fingerprint : GoodIn wsL_law (wsV RL 104 RX5 yX5_fingerprint wsX5_fingerprint) := goodIn_app (goodIn_of _ (by decide +kernel)) ggL_law_X5_fingerprint
set_option maxRecDepth 20000 in
theorem ggL_law_X6_fingerprint : GoodIn wsL_law wsX6_fingerprint := goodIn_r _ [644, 645, 75, 646, 436, 437, 89, 498, 499, 500, 5, 501, 90, 91, 92, 287, 288, 289, 290, 291, 292, 293, 502, 503, 504, 505, 166, 167, 168, 442, 443, 444, 445, 78, 79, 446, 447, 448, 449, 450, 451, 452, 652, 653, 654, 655, 656, 657, 658, 659, 660, 661, 662] (by decide +kernel) (by decide +kernel)
set_option maxRecDepth 20000 in
theorem gL_law_X6_fingerprint : GoodIn wsL_law (wsV RL 107 RX6 yX6_fingerprint wsX6_fingerprint) := goodIn_app (goodIn_of _ (by decide +kernel)) ggL_law_X6_fingerprint
theorem dL_law_0 : decode cL_law 0 = .ok (.new 7, 3) := by decide +kernel
theorem dL_law_3 : decode cL_law 3 = .ok (.dup, 1) := by decide +kernel
theorem dL_law_4 : decode cL_law 4 = .ok (.invokespecial 9, 3) := by decide +kernel
theorem dL_law_7 : decode cL_law 7 = .ok (.astore_n 1, 1) := by decide +kernel
theorem dL_law_8 : decode cL_law 8 = .ok (.new 10, 3) := by decide +kernel
theorem dL_law_11 : decode cL_law 11 = .ok (.dup, 1) := by decide +kernel
theorem dL_law_12 : decode cL_law 12 = .ok (.invokespecial 12, 3) := by decide +kernel
theorem dL_law_15 : decode cL_law 15 = .ok (.astore_n 2, 1) := by decide +kernel
theorem dL_law_16 : decode cL_law 16 = .ok (.iconst 0, 1) := by decide +kernel
theorem dL_law_17 : decode cL_law 17 = .ok (.istore_n 3, 1) := by decide +kernel
theorem dL_law_18 : decode cL_law 18 = .ok (.iload_n 3, 1) := by decide +kernel
theorem dL_law_19 : decode cL_law 19 = .ok (.aload_n 0, 1) := by decide +kernel
theorem dL_law_20 : decode cL_law 20 = .ok (.arraylength, 1) := by decide +kernel
theorem dL_law_21 : decode cL_law 21 = .ok (.bipush 6, 2) := by decide +kernel
theorem dL_law_23 : decode cL_law 23 = .ok (.isub, 1) := by decide +kernel
theorem dL_law_24 : decode cL_law 24 = .ok (.if_icmp .gt 754, 3) := by decide +kernel
theorem dL_law_27 : decode cL_law 27 = .ok (.aload_n 0, 1) := by decide +kernel
theorem dL_law_28 : decode cL_law 28 = .ok (.iload_n 3, 1) := by decide +kernel
theorem dL_law_29 : decode cL_law 29 = .ok (.iaload, 1) := by decide +kernel
theorem dL_law_30 : decode cL_law 30 = .ok (.bipush 31, 2) := by decide +kernel
theorem dL_law_32 : decode cL_law 32 = .ok (.iand, 1) := by decide +kernel
theorem dL_law_33 : decode cL_law 33 = .ok (.tableswitch 739 0 20 #[99, 162, 211, 270, 303, 316, 359, 392, 415, 449, 472, 485, 519, 533, 587, 610, 653, 676, 689, 712, 725], 99) := by decide +kernel
theorem dL_law_132 : decode cL_law 132 = .ok (.aload_n 1, 1) := by decide +kernel
theorem dL_law_133 : decode cL_law 133 = .ok (.aload_n 0, 1) := by decide +kernel
theorem dL_law_134 : decode cL_law 134 = .ok (.iload_n 3, 1) := by decide +kernel
theorem dL_law_135 : decode cL_law 135 = .ok (.iconst 1, 1) := by decide +kernel
theorem dL_law_136 : decode cL_law 136 = .ok (.iadd, 1) := by decide +kernel
theorem dL_law_137 : decode cL_law 137 = .ok (.iaload, 1) := by decide +kernel
theorem dL_law_138 : decode cL_law 138 = .ok (.aload_n 0, 1) := by decide +kernel
theorem dL_law_139 : decode cL_law 139 = .ok (.iload_n 3, 1) := by decide +kernel
theorem dL_law_140 : decode cL_law 140 = .ok (.iconst 2, 1) := by decide +kernel
theorem dL_law_141 : decode cL_law 141 = .ok (.iadd, 1) := by decide +kernel
theorem dL_law_142 : decode cL_law 142 = .ok (.iaload, 1) := by decide +kernel
theorem dL_law_143 : decode cL_law 143 = .ok (.aload_n 0, 1) := by decide +kernel
theorem dL_law_144 : decode cL_law 144 = .ok (.iload_n 3, 1) := by decide +kernel
theorem dL_law_145 : decode cL_law 145 = .ok (.iconst 3, 1) := by decide +kernel
theorem dL_law_146 : decode cL_law 146 = .ok (.iadd, 1) := by decide +kernel
theorem dL_law_147 : decode cL_law 147 = .ok (.iaload, 1) := by decide +kernel
theorem dL_law_148 : decode cL_law 148 = .ok (.aload_n 0, 1) := by decide +kernel
theorem dL_law_149 : decode cL_law 149 = .ok (.iload_n 3, 1) := by decide +kernel
theorem dL_law_150 : decode cL_law 150 = .ok (.iconst 4, 1) := by decide +kernel
theorem dL_law_151 : decode cL_law 151 = .ok (.iadd, 1) := by decide +kernel
theorem dL_law_152 : decode cL_law 152 = .ok (.iaload, 1) := by decide +kernel
theorem dL_law_153 : decode cL_law 153 = .ok (.aload_n 0, 1) := by decide +kernel
theorem dL_law_154 : decode cL_law 154 = .ok (.iload_n 3, 1) := by decide +kernel
theorem dL_law_155 : decode cL_law 155 = .ok (.iconst 5, 1) := by decide +kernel
theorem dL_law_156 : decode cL_law 156 = .ok (.iadd, 1) := by decide +kernel
theorem dL_law_157 : decode cL_law 157 = .ok (.iaload, 1) := by decide +kernel
theorem dL_law_158 : decode cL_law 158 = .ok (.invokevirtual 13, 3) := by decide +kernel
theorem dL_law_161 : decode cL_law 161 = .ok (.aload_n 2, 1) := by decide +kernel
theorem dL_law_162 : decode cL_law 162 = .ok (.aload_n 0, 1) := by decide +kernel
theorem dL_law_163 : decode cL_law 163 = .ok (.iload_n 3, 1) := by decide +kernel
theorem dL_law_164 : decode cL_law 164 = .ok (.iconst 1, 1) := by decide +kernel
theorem dL_law_165 : decode cL_law 165 = .ok (.iadd, 1) := by decide +kernel
theorem dL_law_166 : decode cL_law 166 = .ok (.iaload, 1) := by decide +kernel
theorem dL_law_167 : decode cL_law 167 = .ok (.aload_n 0, 1) := by decide +kernel
theorem dL_law_168 : decode cL_law 168 = .ok (.iload_n 3, 1) := by decide +kernel
theorem dL_law_169 : decode cL_law 169 = .ok (.iconst 2, 1) := by decide +kernel
theorem dL_law_170 : decode cL_law 170 = .ok (.iadd, 1) := by decide +kernel
theorem dL_law_171 : decode cL_law 171 = .ok (.iaload, 1) := by decide +kernel
theorem dL_law_172 : decode cL_law 172 = .ok (.aload_n 0, 1) := by decide +kernel
theorem dL_law_173 : decode cL_law 173 = .ok (.iload_n 3, 1) := by decide +kernel
theorem dL_law_174 : decode cL_law 174 = .ok (.iconst 3, 1) := by decide +kernel
theorem dL_law_175 : decode cL_law 175 = .ok (.iadd, 1) := by decide +kernel
theorem dL_law_176 : decode cL_law 176 = .ok (.iaload, 1) := by decide +kernel
theorem dL_law_177 : decode cL_law 177 = .ok (.aload_n 0, 1) := by decide +kernel
theorem dL_law_178 : decode cL_law 178 = .ok (.iload_n 3, 1) := by decide +kernel
theorem dL_law_179 : decode cL_law 179 = .ok (.iconst 4, 1) := by decide +kernel
theorem dL_law_180 : decode cL_law 180 = .ok (.iadd, 1) := by decide +kernel
theorem dL_law_181 : decode cL_law 181 = .ok (.iaload, 1) := by decide +kernel
theorem dL_law_182 : decode cL_law 182 = .ok (.aload_n 0, 1) := by decide +kernel
theorem dL_law_183 : decode cL_law 183 = .ok (.iload_n 3, 1) := by decide +kernel
theorem dL_law_184 : decode cL_law 184 = .ok (.iconst 5, 1) := by decide +kernel
theorem dL_law_185 : decode cL_law 185 = .ok (.iadd, 1) := by decide +kernel
theorem dL_law_186 : decode cL_law 186 = .ok (.iaload, 1) := by decide +kernel
theorem dL_law_187 : decode cL_law 187 = .ok (.invokevirtual 17, 3) := by decide +kernel
theorem dL_law_190 : decode cL_law 190 = .ok (.if_icmp .eq 582, 3) := by decide +kernel
theorem dL_law_193 : decode cL_law 193 = .ok (.iconst 0, 1) := by decide +kernel
theorem dL_law_194 : decode cL_law 194 = .ok (.ireturn, 1) := by decide +kernel
theorem dL_law_195 : decode cL_law 195 = .ok (.aload_n 1, 1) := by decide +kernel
theorem dL_law_196 : decode cL_law 196 = .ok (.aload_n 0, 1) := by decide +kernel
theorem dL_law_197 : decode cL_law 197 = .ok (.iload_n 3, 1) := by decide +kernel
theorem dL_law_198 : decode cL_law 198 = .ok (.iconst 1, 1) := by decide +kernel
theorem dL_law_199 : decode cL_law 199 = .ok (.iadd, 1) := by decide +kernel
theorem dL_law_200 : decode cL_law 200 = .ok (.iaload, 1) := by decide +kernel
theorem dL_law_201 : decode cL_law 201 = .ok (.aload_n 0, 1) := by decide +kernel
theorem dL_law_202 : decode cL_law 202 = .ok (.iload_n 3, 1) := by decide +kernel
theorem dL_law_203 : decode cL_law 203 = .ok (.iconst 2, 1) := by decide +kernel
theorem dL_law_204 : decode cL_law 204 = .ok (.iadd, 1) := by decide +kernel
theorem dL_law_205 : decode cL_law 205 = .ok (.iaload, 1) := by decide +kernel
theorem dL_law_206 : decode cL_law 206 = .ok (.ifCond .eq 7, 3) := by decide +kernel
theorem dL_law_209 : decode cL_law 209 = .ok (.iconst 1, 1) := by decide +kernel
theorem dL_law_210 : decode cL_law 210 = .ok (.goto 4, 3) := by decide +kernel
theorem dL_law_213 : decode cL_law 213 = .ok (.iconst 0, 1) := by decide +kernel
theorem dL_law_214 : decode cL_law 214 = .ok (.invokevirtual 18, 3) := by decide +kernel
theorem dL_law_217 : decode cL_law 217 = .ok (.aload_n 2, 1) := by decide +kernel
theorem dL_law_218 : decode cL_law 218 = .ok (.aload_n 0, 1) := by decide +kernel
theorem dL_law_219 : decode cL_law 219 = .ok (.iload_n 3, 1) := by decide +kernel
theorem dL_law_220 : decode cL_law 220 = .ok (.iconst 1, 1) := by decide +kernel
theorem dL_law_221 : decode cL_law 221 = .ok (.iadd, 1) := by decide +kernel
theorem dL_law_222 : decode cL_law 222 = .ok (.iaload, 1) := by decide +kernel
theorem dL_law_223 : decode cL_law 223 = .ok (.aload_n 0, 1) := by decide +kernel
theorem dL_law_224 : decode cL_law 224 = .ok (.iload_n 3, 1) := by decide +kernel
theorem dL_law_225 : decode cL_law 225 = .ok (.iconst 2, 1) := by decide +kernel
theorem dL_law_226 : decode cL_law 226 = .ok (.iadd, 1) := by decide +kernel
theorem dL_law_227 : decode cL_law 227 = .ok (.iaload, 1) := by decide +kernel
theorem dL_law_228 : decode cL_law 228 = .ok (.ifCond .eq 7, 3) := by decide +kernel
theorem dL_law_231 : decode cL_law 231 = .ok (.iconst 1, 1) := by decide +kernel
theorem dL_law_232 : decode cL_law 232 = .ok (.goto 4, 3) := by decide +kernel
theorem dL_law_235 : decode cL_law 235 = .ok (.iconst 0, 1) := by decide +kernel
theorem dL_law_236 : decode cL_law 236 = .ok (.invokevirtual 22, 3) := by decide +kernel
theorem dL_law_239 : decode cL_law 239 = .ok (.if_icmp .eq 533, 3) := by decide +kernel
theorem dL_law_242 : decode cL_law 242 = .ok (.iconst 0, 1) := by decide +kernel
theorem dL_law_243 : decode cL_law 243 = .ok (.ireturn, 1) := by decide +kernel
theorem dL_law_244 : decode cL_law 244 = .ok (.aload_n 1, 1) := by decide +kernel
theorem dL_law_245 : decode cL_law 245 = .ok (.aload_n 0, 1) := by decide +kernel
theorem dL_law_246 : decode cL_law 246 = .ok (.iload_n 3, 1) := by decide +kernel
theorem dL_law_247 : decode cL_law 247 = .ok (.iconst 1, 1) := by decide +kernel
theorem dL_law_248 : decode cL_law 248 = .ok (.iadd, 1) := by decide +kernel
theorem dL_law_249 : decode cL_law 249 = .ok (.iaload, 1) := by decide +kernel
theorem dL_law_250 : decode cL_law 250 = .ok (.aload_n 0, 1) := by decide +kernel
theorem dL_law_251 : decode cL_law 251 = .ok (.iload_n 3, 1) := by decide +kernel
theorem dL_law_252 : decode cL_law 252 = .ok (.iconst 2, 1) := by decide +kernel
theorem dL_law_253 : decode cL_law 253 = .ok (.iadd, 1) := by decide +kernel
theorem dL_law_254 : decode cL_law 254 = .ok (.iaload, 1) := by decide +kernel
theorem dL_law_255 : decode cL_law 255 = .ok (.ifCond .eq 7, 3) := by decide +kernel
theorem dL_law_258 : decode cL_law 258 = .ok (.iconst 1, 1) := by decide +kernel
theorem dL_law_259 : decode cL_law 259 = .ok (.goto 4, 3) := by decide +kernel
theorem dL_law_262 : decode cL_law 262 = .ok (.iconst 0, 1) := by decide +kernel
theorem dL_law_263 : decode cL_law 263 = .ok (.aload_n 0, 1) := by decide +kernel
theorem dL_law_264 : decode cL_law 264 = .ok (.iload_n 3, 1) := by decide +kernel
theorem dL_law_265 : decode cL_law 265 = .ok (.iconst 3, 1) := by decide +kernel
theorem dL_law_266 : decode cL_law 266 = .ok (.iadd, 1) := by decide +kernel
theorem dL_law_267 : decode cL_law 267 = .ok (.iaload, 1) := by decide +kernel
theorem dL_law_268 : decode cL_law 268 = .ok (.invokevirtual 23, 3) := by decide +kernel
theorem dL_law_271 : decode cL_law 271 = .ok (.aload_n 2, 1) := by decide +kernel
theorem dL_law_272 : decode cL_law 272 = .ok (.aload_n 0, 1) := by decide +kernel
theorem dL_law_273 : decode cL_law 273 = .ok (.iload_n 3, 1) := by decide +kernel
theorem dL_law_274 : decode cL_law 274 = .ok (.iconst 1, 1) := by decide +kernel
theorem dL_law_275 : decode cL_law 275 = .ok (.iadd, 1) := by decide +kernel
theorem dL_law_276 : decode cL_law 276 = .ok (.iaload, 1) := by decide +kernel
theorem dL_law_277 : decode cL_law 277 = .ok (.aload_n 0, 1) := by decide +kernel
theorem dL_law_278 : decode cL_law 278 = .ok (.iload_n 3, 1) := by decide +kernel
theorem dL_law_279 : decode cL_law 279 = .ok (.iconst 2, 1) := by decide +kernel
theorem dL_law_280 : decode cL_law 280 = .ok (.iadd, 1) := by decide +kernel
theorem dL_law_281 : decode cL_law 281 = .ok (.iaload, 1) := by decide +kernel
theorem dL_law_282 : decode cL_law 282 = .ok (.ifCond .eq 7, 3) := by decide +kernel
theorem dL_law_285 : decode cL_law 285 = .ok (.iconst 1, 1) := by decide +kernel
theorem dL_law_286 : decode cL_law 286 = .ok (.goto 4, 3) := by decide +kernel
theorem dL_law_289 : decode cL_law 289 = .ok (.iconst 0, 1) := by decide +kernel
theorem dL_law_290 : decode cL_law 290 = .ok (.aload_n 0, 1) := by decide +kernel
theorem dL_law_291 : decode cL_law 291 = .ok (.iload_n 3, 1) := by decide +kernel
theorem dL_law_292 : decode cL_law 292 = .ok (.iconst 3, 1) := by decide +kernel
theorem dL_law_293 : decode cL_law 293 = .ok (.iadd, 1) := by decide +kernel
theorem dL_law_294 : decode cL_law 294 = .ok (.iaload, 1) := by decide +kernel
theorem dL_law_295 : decode cL_law 295 = .ok (.invokevirtual 27, 3) := by decide +kernel
theorem dL_law_298 : decode cL_law 298 = .ok (.if_icmp .eq 474, 3) := by decide +kernel
theorem dL_law_301 : decode cL_law 301 = .ok (.iconst 0, 1) := by decide +kernel
theorem dL_law_302 : decode cL_law 302 = .ok (.ireturn, 1) := by decide +kernel
theorem dL_law_303 : decode cL_law 303 = .ok (.aload_n 1, 1) := by decide +kernel
theorem dL_law_304 : decode cL_law 304 = .ok (.aload_n 0, 1) := by decide +kernel
theorem dL_law_305 : decode cL_law 305 = .ok (.iload_n 3, 1) := by decide +kernel
theorem dL_law_306 : decode cL_law 306 = .ok (.iconst 1, 1) := by decide +kernel
theorem dL_law_307 : decode cL_law 307 = .ok (.iadd, 1) := by decide +kernel
theorem dL_law_308 : decode cL_law 308 = .ok (.iaload, 1) := by decide +kernel
theorem dL_law_309 : decode cL_law 309 = .ok (.aload_n 0, 1) := by decide +kernel
theorem dL_law_310 : decode cL_law 310 = .ok (.iload_n 3, 1) := by decide +kernel
theorem dL_law_311 : decode cL_law 311 = .ok (.iconst 2, 1) := by decide +kernel
theorem dL_law_312 : decode cL_law 312 = .ok (.iadd, 1) := by decide +kernel
theorem dL_law_313 : decode cL_law 313 = .ok (.iaload, 1) := by decide +kernel
theorem dL_law_314 : decode cL_law 314 = .ok (.invokevirtual 28, 3) := by decide +kernel
theorem dL_law_317 : decode cL_law 317 = .ok (.aload_n 2, 1) := by decide +kernel
theorem dL_law_318 : decode cL_law 318 = .ok (.aload_n 0, 1) := by decide +kernel
theorem dL_law_319 : decode cL_law 319 = .ok (.iload_n 3, 1) := by decide +kernel
theorem dL_law_320 : decode cL_law 320 = .ok (.iconst 1, 1) := by decide +kernel
theorem dL_law_321 : decode cL_law 321 = .ok (.iadd, 1) := by decide +kernel
theorem dL_law_322 : decode cL_law 322 = .ok (.iaload, 1) := by decide +kernel
theorem dL_law_323 : decode cL_law 323 = .ok (.aload_n 0, 1) := by decide +kernel
theorem dL_law_324 : decode cL_law 324 = .ok (.iload_n 3, 1) := by decide +kernel
theorem dL_law_325 : decode cL_law 325 = .ok (.iconst 2, 1) := by decide +kernel
theorem dL_law_326 : decode cL_law 326 = .ok (.iadd, 1) := by decide +kernel
theorem dL_law_327 : decode cL_law 327 = .ok (.iaload, 1) := by decide +kernel
theorem dL_law_328 : decode cL_law 328 = .ok (.invokevirtual 32, 3) := by decide +kernel
theorem dL_law_331 : decode cL_law 331 = .ok (.if_icmp .eq 441, 3) := by decide +kernel
theorem dL_law_334 : decode cL_law 334 = .ok (.iconst 0, 1) := by decide +kernel
theorem dL_law_335 : decode cL_law 335 = .ok (.ireturn, 1) := by decide +kernel
theorem dL_law_336 : decode cL_law 336 = .ok (.aload_n 1, 1) := by decide +kernel
theorem dL_law_337 : decode cL_law 337 = .ok (.invokevirtual 33, 3) := by decide +kernel
theorem dL_law_340 : decode cL_law 340 = .ok (.aload_n 2, 1) := by decide +kernel
theorem dL_law_341 : decode cL_law 341 = .ok (.invokevirtual 37, 3) := by decide +kernel
theorem dL_law_344 : decode cL_law 344 = .ok (.if_icmp .eq 428, 3) := by decide +kernel
theorem dL_law_347 : decode cL_law 347 = .ok (.iconst 0, 1) := by decide +kernel
theorem dL_law_348 : decode cL_law 348 = .ok (.ireturn, 1) := by decide +kernel
theorem dL_law_349 : decode cL_law 349 = .ok (.aload_n 1, 1) := by decide +kernel
theorem dL_law_350 : decode cL_law 350 = .ok (.aload_n 0, 1) := by decide +kernel
theorem dL_law_351 : decode cL_law 351 = .ok (.iload_n 3, 1) := by decide +kernel
theorem dL_law_352 : decode cL_law 352 = .ok (.iconst 1, 1) := by decide +kernel
theorem dL_law_353 : decode cL_law 353 = .ok (.iadd, 1) := by decide +kernel
theorem dL_law_354 : decode cL_law 354 = .ok (.iaload, 1) := by decide +kernel
theorem dL_law_355 : decode cL_law 355 = .ok (.aload_n 0, 1) := by decide +kernel
theorem dL_law_356 : decode cL_law 356 = .ok (.iload_n 3, 1) := by decide +kernel
theorem dL_law_357 : decode cL_law 357 = .ok (.iconst 2, 1) := by decide +kernel
theorem dL_law_358 : decode cL_law 358 = .ok (.iadd, 1) := by decide +kernel
theorem dL_law_359 : decode cL_law 359 = .ok (.iaload, 1) := by decide +kernel
theorem dL_law_360 : decode cL_law 360 = .ok (.aload_n 0, 1) := by decide +kernel
theorem dL_law_361 : decode cL_law 361 = .ok (.iload_n 3, 1) := by decide +kernel
theorem dL_law_362 : decode cL_law 362 = .ok (.iconst 3, 1) := by decide +kernel
theorem dL_law_363 : decode cL_law 363 = .ok (.iadd, 1) := by decide +kernel
theorem dL_law_364 : decode cL_law 364 = .ok (.iaload, 1) := by decide +kernel
theorem dL_law_365 : decode cL_law 365 = .ok (.invokevirtual 38, 3) := by decide +kernel
theorem dL_law_368 : decode cL_law 368 = .ok (.aload_n 2, 1) := by decide +kernel
theorem dL_law_369 : decode cL_law 369 = .ok (.aload_n 0, 1) := by decide +kernel
theorem dL_law_370 : decode cL_law 370 = .ok (.iload_n 3, 1) := by decide +kernel
theorem dL_law_371 : decode cL_law 371 = .ok (.iconst 1, 1) := by decide +kernel
theorem dL_law_372 : decode cL_law 372 = .ok (.iadd, 1) := by decide +kernel
theorem dL_law_373 : decode cL_law 373 = .ok (.iaload, 1) := by decide +kernel
theorem dL_law_374 : decode cL_law 374 = .ok (.aload_n 0, 1) := by decide +kernel
theorem dL_law_375 : decode cL_law 375 = .ok (.iload_n 3, 1) := by decide +kernel
theorem dL_law_376 : decode cL_law 376 = .ok (.iconst 2, 1) := by decide +kernel
theorem dL_law_377 : decode cL_law 377 = .ok (.iadd, 1) := by decide +kernel
theorem dL_law_378 : decode cL_law 378 = .ok (.iaload, 1) := by decide +kernel
theorem dL_law_379 : decode cL_law 379 = .ok (.aload_n 0, 1) := by decide +kernel
theorem dL_law_380 : decode cL_law 380 = .ok (.iload_n 3, 1) := by decide +kernel
theorem dL_law_381 : decode cL_law 381 = .ok (.iconst 3, 1) := by decide +kernel
theorem dL_law_382 : decode cL_law 382 = .ok (.iadd, 1) := by decide +kernel
theorem dL_law_383 : decode cL_law 383 = .ok (.iaload, 1) := by decide +kernel
theorem dL_law_384 : decode cL_law 384 = .ok (.invokevirtual 42, 3) := by decide +kernel
theorem dL_law_387 : decode cL_law 387 = .ok (.if_icmp .eq 385, 3) := by decide +kernel
theorem dL_law_390 : decode cL_law 390 = .ok (.iconst 0, 1) := by decide +kernel
theorem dL_law_391 : decode cL_law 391 = .ok (.ireturn, 1) := by decide +kernel
theorem dL_law_392 : decode cL_law 392 = .ok (.aload_n 1, 1) := by decide +kernel
theorem dL_law_393 : decode cL_law 393 = .ok (.aload_n 0, 1) := by decide +kernel
theorem dL_law_394 : decode cL_law 394 = .ok (.iload_n 3, 1) := by decide +kernel
theorem dL_law_395 : decode cL_law 395 = .ok (.iconst 1, 1) := by decide +kernel
theorem dL_law_396 : decode cL_law 396 = .ok (.iadd, 1) := by decide +kernel
theorem dL_law_397 : decode cL_law 397 = .ok (.iaload, 1) := by decide +kernel
theorem dL_law_398 : decode cL_law 398 = .ok (.aload_n 0, 1) := by decide +kernel
theorem dL_law_399 : decode cL_law 399 = .ok (.iload_n 3, 1) := by decide +kernel
theorem dL_law_400 : decode cL_law 400 = .ok (.iconst 2, 1) := by decide +kernel
theorem dL_law_401 : decode cL_law 401 = .ok (.iadd, 1) := by decide +kernel
theorem dL_law_402 : decode cL_law 402 = .ok (.iaload, 1) := by decide +kernel
theorem dL_law_403 : decode cL_law 403 = .ok (.invokevirtual 43, 3) := by decide +kernel
theorem dL_law_406 : decode cL_law 406 = .ok (.aload_n 2, 1) := by decide +kernel
theorem dL_law_407 : decode cL_law 407 = .ok (.aload_n 0, 1) := by decide +kernel
theorem dL_law_408 : decode cL_law 408 = .ok (.iload_n 3, 1) := by decide +kernel
theorem dL_law_409 : decode cL_law 409 = .ok (.iconst 1, 1) := by decide +kernel
theorem dL_law_410 : decode cL_law 410 = .ok (.iadd, 1) := by decide +kernel
theorem dL_law_411 : decode cL_law 411 = .ok (.iaload, 1) := by decide +kernel
theorem dL_law_412 : decode cL_law 412 = .ok (.aload_n 0, 1) := by decide +kernel
theorem dL_law_413 : decode cL_law 413 = .ok (.iload_n 3, 1) := by decide +kernel
theorem dL_law_414 : decode cL_law 414 = .ok (.iconst 2, 1) := by decide +kernel
theorem dL_law_415 : decode cL_law 415 = .ok (.iadd, 1) := by decide +kernel
theorem dL_law_416 : decode cL_law 416 = .ok (.iaload, 1) := by decide +kernel
theorem dL_law_417 : decode cL_law 417 = .ok (.invokevirtual 46, 3) := by decide +kernel
theorem dL_law_420 : decode cL_law 420 = .ok (.if_icmp .eq 352, 3) := by decide +kernel
theorem dL_law_423 : decode cL_law 423 = .ok (.iconst 0, 1) := by decide +kernel
theorem dL_law_424 : decode cL_law 424 = .ok (.ireturn, 1) := by decide +kernel
theorem dL_law_425 : decode cL_law 425 = .ok (.aload_n 1, 1) := by decide +kernel
theorem dL_law_426 : decode cL_law 426 = .ok (.aload_n 0, 1) := by decide +kernel
theorem dL_law_427 : decode cL_law 427 = .ok (.iload_n 3, 1) := by decide +kernel
theorem dL_law_428 : decode cL_law 428 = .ok (.iconst 1, 1) := by decide +kernel
theorem dL_law_429 : decode cL_law 429 = .ok (.iadd, 1) := by decide +kernel
theorem dL_law_430 : decode cL_law 430 = .ok (.iaload, 1) := by decide +kernel
theorem dL_law_431 : decode cL_law 431 = .ok (.invokevirtual 47, 3) := by decide +kernel
theorem dL_law_434 : decode cL_law 434 = .ok (.aload_n 2, 1) := by decide +kernel
theorem dL_law_435 : decode cL_law 435 = .ok (.aload_n 0, 1) := by decide +kernel
theorem dL_law_436 : decode cL_law 436 = .ok (.iload_n 3, 1) := by decide +kernel
theorem dL_law_437 : decode cL_law 437 = .ok (.iconst 1, 1) := by decide +kernel
theorem dL_law_438 : decode cL_law 438 = .ok (.iadd, 1) := by decide +kernel
theorem dL_law_439 : decode cL_law 439 = .ok (.iaload, 1) := by decide +kernel
theorem dL_law_440 : decode cL_law 440 = .ok (.invokevirtual 51, 3) := by decide +kernel
theorem dL_law_443 : decode cL_law 443 = .ok (.if_icmp .eq 329, 3) := by decide +kernel
theorem dL_law_446 : decode cL_law 446 = .ok (.iconst 0, 1) := by decide +kernel
theorem dL_law_447 : decode cL_law 447 = .ok (.ireturn, 1) := by decide +kernel
theorem dL_law_448 : decode cL_law 448 = .ok (.aload_n 1, 1) := by decide +kernel
theorem dL_law_449 : decode cL_law 449 = .ok (.aload_n 0, 1) := by decide +kernel
theorem dL_law_450 : decode cL_law 450 = .ok (.iload_n 3, 1) := by decide +kernel
theorem dL_law_451 : decode cL_law 451 = .ok (.iconst 1, 1) := by decide +kernel
theorem dL_law_452 : decode cL_law 452 = .ok (.iadd, 1) := by decide +kernel
theorem dL_law_453 : decode cL_law 453 = .ok (.iaload, 1) := by decide +kernel
theorem dL_law_454 : decode cL_law 454 = .ok (.aload_n 0, 1) := by decide +kernel
theorem dL_law_455 : decode cL_law 455 = .ok (.iload_n 3, 1) := by decide +kernel
theorem dL_law_456 : decode cL_law 456 = .ok (.iconst 2, 1) := by decide +kernel
theorem dL_law_457 : decode cL_law 457 = .ok (.iadd, 1) := by decide +kernel
theorem dL_law_458 : decode cL_law 458 = .ok (.iaload, 1) := by decide +kernel
theorem dL_law_459 : decode cL_law 459 = .ok (.invokevirtual 52, 3) := by decide +kernel
theorem dL_law_462 : decode cL_law 462 = .ok (.aload_n 2, 1) := by decide +kernel
theorem dL_law_463 : decode cL_law 463 = .ok (.aload_n 0, 1) := by decide +kernel
theorem dL_law_464 : decode cL_law 464 = .ok (.iload_n 3, 1) := by decide +kernel
theorem dL_law_465 : decode cL_law 465 = .ok (.iconst 1, 1) := by decide +kernel
theorem dL_law_466 : decode cL_law 466 = .ok (.iadd, 1) := by decide +kernel
theorem dL_law_467 : decode cL_law 467 = .ok (.iaload, 1) := by decide +kernel
theorem dL_law_468 : decode cL_law 468 = .ok (.aload_n 0, 1) := by decide +kernel
theorem dL_law_469 : decode cL_law 469 = .ok (.iload_n 3, 1) := by decide +kernel
theorem dL_law_470 : decode cL_law 470 = .ok (.iconst 2, 1) := by decide +kernel
theorem dL_law_471 : decode cL_law 471 = .ok (.iadd, 1) := by decide +kernel
theorem dL_law_472 : decode cL_law 472 = .ok (.iaload, 1) := by decide +kernel
theorem dL_law_473 : decode cL_law 473 = .ok (.invokevirtual 56, 3) := by decide +kernel
theorem dL_law_476 : decode cL_law 476 = .ok (.lcmp, 1) := by decide +kernel
theorem dL_law_477 : decode cL_law 477 = .ok (.ifCond .eq 295, 3) := by decide +kernel
theorem dL_law_480 : decode cL_law 480 = .ok (.iconst 0, 1) := by decide +kernel
theorem dL_law_481 : decode cL_law 481 = .ok (.ireturn, 1) := by decide +kernel
theorem dL_law_482 : decode cL_law 482 = .ok (.aload_n 1, 1) := by decide +kernel
theorem dL_law_483 : decode cL_law 483 = .ok (.aload_n 0, 1) := by decide +kernel
theorem dL_law_484 : decode cL_law 484 = .ok (.iload_n 3, 1) := by decide +kernel
theorem dL_law_485 : decode cL_law 485 = .ok (.iconst 1, 1) := by decide +kernel
theorem dL_law_486 : decode cL_law 486 = .ok (.iadd, 1) := by decide +kernel
theorem dL_law_487 : decode cL_law 487 = .ok (.iaload, 1) := by decide +kernel
theorem dL_law_488 : decode cL_law 488 = .ok (.invokevirtual 57, 3) := by decide +kernel
theorem dL_law_491 : decode cL_law 491 = .ok (.aload_n 2, 1) := by decide +kernel
theorem dL_law_492 : decode cL_law 492 = .ok (.aload_n 0, 1) := by decide +kernel
theorem dL_law_493 : decode cL_law 493 = .ok (.iload_n 3, 1) := by decide +kernel
theorem dL_law_494 : decode cL_law 494 = .ok (.iconst 1, 1) := by decide +kernel
theorem dL_law_495 : decode cL_law 495 = .ok (.iadd, 1) := by decide +kernel
theorem dL_law_496 : decode cL_law 496 = .ok (.iaload, 1) := by decide +kernel
theorem dL_law_497 : decode cL_law 497 = .ok (.invokevirtual 60, 3) := by decide +kernel
theorem dL_law_500 : decode cL_law 500 = .ok (.if_icmp .eq 272, 3) := by decide +kernel
theorem dL_law_503 : decode cL_law 503 = .ok (.iconst 0, 1) := by decide +kernel
theorem dL_law_504 : decode cL_law 504 = .ok (.ireturn, 1) := by decide +kernel
theorem dL_law_505 : decode cL_law 505 = .ok (.aload_n 1, 1) := by decide +kernel
theorem dL_law_506 : decode cL_law 506 = .ok (.invokevirtual 61, 3) := by decide +kernel
theorem dL_law_509 : decode cL_law 509 = .ok (.aload_n 2, 1) := by decide +kernel
theorem dL_law_510 : decode cL_law 510 = .ok (.invokevirtual 64, 3) := by decide +kernel
theorem dL_law_513 : decode cL_law 513 = .ok (.if_icmp .eq 259, 3) := by decide +kernel
theorem dL_law_516 : decode cL_law 516 = .ok (.iconst 0, 1) := by decide +kernel
theorem dL_law_517 : decode cL_law 517 = .ok (.ireturn, 1) := by decide +kernel
theorem dL_law_518 : decode cL_law 518 = .ok (.aload_n 1, 1) := by decide +kernel
theorem dL_law_519 : decode cL_law 519 = .ok (.aload_n 0, 1) := by decide +kernel
theorem dL_law_520 : decode cL_law 520 = .ok (.iload_n 3, 1) := by decide +kernel
theorem dL_law_521 : decode cL_law 521 = .ok (.iconst 1, 1) := by decide +kernel
theorem dL_law_522 : decode cL_law 522 = .ok (.iadd, 1) := by decide +kernel
theorem dL_law_523 : decode cL_law 523 = .ok (.iaload, 1) := by decide +kernel
theorem dL_law_524 : decode cL_law 524 = .ok (.aload_n 0, 1) := by decide +kernel
theorem dL_law_525 : decode cL_law 525 = .ok (.iload_n 3, 1) := by decide +kernel
theorem dL_law_526 : decode cL_law 526 = .ok (.iconst 2, 1) := by decide +kernel
theorem dL_law_527 : decode cL_law 527 = .ok (.iadd, 1) := by decide +kernel
theorem dL_law_528 : decode cL_law 528 = .ok (.iaload, 1) := by decide +kernel
theorem dL_law_529 : decode cL_law 529 = .ok (.invokevirtual 65, 3) := by decide +kernel
theorem dL_law_532 : decode cL_law 532 = .ok (.aload_n 2, 1) := by decide +kernel
theorem dL_law_533 : decode cL_law 533 = .ok (.aload_n 0, 1) := by decide +kernel
theorem dL_law_534 : decode cL_law 534 = .ok (.iload_n 3, 1) := by decide +kernel
theorem dL_law_535 : decode cL_law 535 = .ok (.iconst 1, 1) := by decide +kernel
theorem dL_law_536 : decode cL_law 536 = .ok (.iadd, 1) := by decide +kernel
theorem dL_law_537 : decode cL_law 537 = .ok (.iaload, 1) := by decide +kernel
theorem dL_law_538 : decode cL_law 538 = .ok (.aload_n 0, 1) := by decide +kernel
theorem dL_law_539 : decode cL_law 539 = .ok (.iload_n 3, 1) := by decide +kernel
theorem dL_law_540 : decode cL_law 540 = .ok (.iconst 2, 1) := by decide +kernel
theorem dL_law_541 : decode cL_law 541 = .ok (.iadd, 1) := by decide +kernel
theorem dL_law_542 : decode cL_law 542 = .ok (.iaload, 1) := by decide +kernel
theorem dL_law_543 : decode cL_law 543 = .ok (.invokevirtual 68, 3) := by decide +kernel
theorem dL_law_546 : decode cL_law 546 = .ok (.lcmp, 1) := by decide +kernel
theorem dL_law_547 : decode cL_law 547 = .ok (.ifCond .eq 225, 3) := by decide +kernel
theorem dL_law_550 : decode cL_law 550 = .ok (.iconst 0, 1) := by decide +kernel
theorem dL_law_551 : decode cL_law 551 = .ok (.ireturn, 1) := by decide +kernel
theorem dL_law_552 : decode cL_law 552 = .ok (.aload_n 1, 1) := by decide +kernel
theorem dL_law_553 : decode cL_law 553 = .ok (.invokevirtual 69, 3) := by decide +kernel
theorem dL_law_556 : decode cL_law 556 = .ok (.aload_n 2, 1) := by decide +kernel
theorem dL_law_557 : decode cL_law 557 = .ok (.invokevirtual 73, 3) := by decide +kernel
theorem dL_law_560 : decode cL_law 560 = .ok (.lcmp, 1) := by decide +kernel
theorem dL_law_561 : decode cL_law 561 = .ok (.ifCond .eq 211, 3) := by decide +kernel
theorem dL_law_564 : decode cL_law 564 = .ok (.iconst 0, 1) := by decide +kernel
theorem dL_law_565 : decode cL_law 565 = .ok (.ireturn, 1) := by decide +kernel
theorem dL_law_566 : decode cL_law 566 = .ok (.aload_n 1, 1) := by decide +kernel
theorem dL_law_567 : decode cL_law 567 = .ok (.aload_n 0, 1) := by decide +kernel
theorem dL_law_568 : decode cL_law 568 = .ok (.iload_n 3, 1) := by decide +kernel
theorem dL_law_569 : decode cL_law 569 = .ok (.iconst 1, 1) := by decide +kernel
theorem dL_law_570 : decode cL_law 570 = .ok (.iadd, 1) := by decide +kernel
theorem dL_law_571 : decode cL_law 571 = .ok (.iaload, 1) := by decide +kernel
theorem dL_law_572 : decode cL_law 572 = .ok (.aload_n 0, 1) := by decide +kernel
theorem dL_law_573 : decode cL_law 573 = .ok (.iload_n 3, 1) := by decide +kernel
theorem dL_law_574 : decode cL_law 574 = .ok (.iconst 2, 1) := by decide +kernel
theorem dL_law_575 : decode cL_law 575 = .ok (.iadd, 1) := by decide +kernel
theorem dL_law_576 : decode cL_law 576 = .ok (.iaload, 1) := by decide +kernel
theorem dL_law_577 : decode cL_law 577 = .ok (.aload_n 0, 1) := by decide +kernel
theorem dL_law_578 : decode cL_law 578 = .ok (.iload_n 3, 1) := by decide +kernel
theorem dL_law_579 : decode cL_law 579 = .ok (.iconst 3, 1) := by decide +kernel
theorem dL_law_580 : decode cL_law 580 = .ok (.iadd, 1) := by decide +kernel
theorem dL_law_581 : decode cL_law 581 = .ok (.iaload, 1) := by decide +kernel
theorem dL_law_582 : decode cL_law 582 = .ok (.aload_n 0, 1) := by decide +kernel
theorem dL_law_583 : decode cL_law 583 = .ok (.iload_n 3, 1) := by decide +kernel
theorem dL_law_584 : decode cL_law 584 = .ok (.iconst 4, 1) := by decide +kernel
theorem dL_law_585 : decode cL_law 585 = .ok (.iadd, 1) := by decide +kernel
theorem dL_law_586 : decode cL_law 586 = .ok (.iaload, 1) := by decide +kernel
theorem dL_law_587 : decode cL_law 587 = .ok (.invokevirtual 74, 3) := by decide +kernel
theorem dL_law_590 : decode cL_law 590 = .ok (.aload_n 2, 1) := by decide +kernel
theorem dL_law_591 : decode cL_law 591 = .ok (.aload_n 0, 1) := by decide +kernel
theorem dL_law_592 : decode cL_law 592 = .ok (.iload_n 3, 1) := by decide +kernel
theorem dL_law_593 : decode cL_law 593 = .ok (.iconst 1, 1) := by decide +kernel
theorem dL_law_594 : decode cL_law 594 = .ok (.iadd, 1) := by decide +kernel
theorem dL_law_595 : decode cL_law 595 = .ok (.iaload, 1) := by decide +kernel
theorem dL_law_596 : decode cL_law 596 = .ok (.aload_n 0, 1) := by decide +kernel
theorem dL_law_597 : decode cL_law 597 = .ok (.iload_n 3, 1) := by decide +kernel
theorem dL_law_598 : decode cL_law 598 = .ok (.iconst 2, 1) := by decide +kernel
theorem dL_law_599 : decode cL_law 599 = .ok (.iadd, 1) := by decide +kernel
theorem dL_law_600 : decode cL_law 600 = .ok (.iaload, 1) := by decide +kernel
theorem dL_law_601 : decode cL_law 601 = .ok (.aload_n 0, 1) := by decide +kernel
theorem dL_law_602 : decode cL_law 602 = .ok (.iload_n 3, 1) := by decide +kernel
theorem dL_law_603 : decode cL_law 603 = .ok (.iconst 3, 1) := by decide +kernel
theorem dL_law_604 : decode cL_law 604 = .ok (.iadd, 1) := by decide +kernel
theorem dL_law_605 : decode cL_law 605 = .ok (.iaload, 1) := by decide +kernel
theorem dL_law_606 : decode cL_law 606 = .ok (.aload_n 0, 1) := by decide +kernel
theorem dL_law_607 : decode cL_law 607 = .ok (.iload_n 3, 1) := by decide +kernel
theorem dL_law_608 : decode cL_law 608 = .ok (.iconst 4, 1) := by decide +kernel
theorem dL_law_609 : decode cL_law 609 = .ok (.iadd, 1) := by decide +kernel
theorem dL_law_610 : decode cL_law 610 = .ok (.iaload, 1) := by decide +kernel
theorem dL_law_611 : decode cL_law 611 = .ok (.invokevirtual 78, 3) := by decide +kernel
theorem dL_law_614 : decode cL_law 614 = .ok (.lcmp, 1) := by decide +kernel
theorem dL_law_615 : decode cL_law 615 = .ok (.ifCond .eq 157, 3) := by decide +kernel
theorem dL_law_618 : decode cL_law 618 = .ok (.iconst 0, 1) := by decide +kernel
theorem dL_law_619 : decode cL_law 619 = .ok (.ireturn, 1) := by decide +kernel
theorem dL_law_620 : decode cL_law 620 = .ok (.aload_n 1, 1) := by decide +kernel
theorem dL_law_621 : decode cL_law 621 = .ok (.aload_n 0, 1) := by decide +kernel
theorem dL_law_622 : decode cL_law 622 = .ok (.iload_n 3, 1) := by decide +kernel
theorem dL_law_623 : decode cL_law 623 = .ok (.iconst 1, 1) := by decide +kernel
theorem dL_law_624 : decode cL_law 624 = .ok (.iadd, 1) := by decide +kernel
theorem dL_law_625 : decode cL_law 625 = .ok (.iaload, 1) := by decide +kernel
theorem dL_law_626 : decode cL_law 626 = .ok (.invokevirtual 79, 3) := by decide +kernel
theorem dL_law_629 : decode cL_law 629 = .ok (.aload_n 2, 1) := by decide +kernel
theorem dL_law_630 : decode cL_law 630 = .ok (.aload_n 0, 1) := by decide +kernel
theorem dL_law_631 : decode cL_law 631 = .ok (.iload_n 3, 1) := by decide +kernel
theorem dL_law_632 : decode cL_law 632 = .ok (.iconst 1, 1) := by decide +kernel
theorem dL_law_633 : decode cL_law 633 = .ok (.iadd, 1) := by decide +kernel
theorem dL_law_634 : decode cL_law 634 = .ok (.iaload, 1) := by decide +kernel
theorem dL_law_635 : decode cL_law 635 = .ok (.invokevirtual 82, 3) := by decide +kernel
theorem dL_law_638 : decode cL_law 638 = .ok (.if_icmp .eq 134, 3) := by decide +kernel
theorem dL_law_641 : decode cL_law 641 = .ok (.iconst 0, 1) := by decide +kernel
theorem dL_law_642 : decode cL_law 642 = .ok (.ireturn, 1) := by decide +kernel
theorem dL_law_643 : decode cL_law 643 = .ok (.aload_n 1, 1) := by decide +kernel
theorem dL_law_644 : decode cL_law 644 = .ok (.invokevirtual 83, 3) := by decide +kernel
theorem dL_law_647 : decode cL_law 647 = .ok (.f2d, 1) := by decide +kernel
theorem dL_law_648 : decode cL_law 648 = .ok (.dstore 4, 2) := by decide +kernel
theorem dL_law_650 : decode cL_law 650 = .ok (.aload_n 2, 1) := by decide +kernel
theorem dL_law_651 : decode cL_law 651 = .ok (.invokevirtual 87, 3) := by decide +kernel
theorem dL_law_654 : decode cL_law 654 = .ok (.f2d, 1) := by decide +kernel
theorem dL_law_655 : decode cL_law 655 = .ok (.dstore 6, 2) := by decide +kernel
theorem dL_law_657 : decode cL_law 657 = .ok (.dload 4, 2) := by decide +kernel
theorem dL_law_659 : decode cL_law 659 = .ok (.dload 6, 2) := by decide +kernel
theorem dL_law_661 : decode cL_law 661 = .ok (.dcmp .l, 1) := by decide +kernel
theorem dL_law_662 : decode cL_law 662 = .ok (.ifCond .eq 21, 3) := by decide +kernel
theorem dL_law_665 : decode cL_law 665 = .ok (.dload 4, 2) := by decide +kernel
theorem dL_law_667 : decode cL_law 667 = .ok (.dload 4, 2) := by decide +kernel
theorem dL_law_669 : decode cL_law 669 = .ok (.dcmp .l, 1) := by decide +kernel
theorem dL_law_670 : decode cL_law 670 = .ok (.ifCond .eq 11, 3) := by decide +kernel
theorem dL_law_673 : decode cL_law 673 = .ok (.dload 6, 2) := by decide +kernel
theorem dL_law_675 : decode cL_law 675 = .ok (.dload 6, 2) := by decide +kernel
theorem dL_law_677 : decode cL_law 677 = .ok (.dcmp .l, 1) := by decide +kernel
theorem dL_law_678 : decode cL_law 678 = .ok (.ifCond .ne 5, 3) := by decide +kernel
theorem dL_law_681 : decode cL_law 681 = .ok (.iconst 0, 1) := by decide +kernel
theorem dL_law_682 : decode cL_law 682 = .ok (.ireturn, 1) := by decide +kernel
theorem dL_law_683 : decode cL_law 683 = .ok (.goto 89, 3) := by decide +kernel
theorem dL_law_686 : decode cL_law 686 = .ok (.aload_n 1, 1) := by decide +kernel
theorem dL_law_687 : decode cL_law 687 = .ok (.aload_n 0, 1) := by decide +kernel
theorem dL_law_688 : decode cL_law 688 = .ok (.iload_n 3, 1) := by decide +kernel
theorem dL_law_689 : decode cL_law 689 = .ok (.iconst 1, 1) := by decide +kernel
theorem dL_law_690 : decode cL_law 690 = .ok (.iadd, 1) := by decide +kernel
theorem dL_law_691 : decode cL_law 691 = .ok (.iaload, 1) := by decide +kernel
theorem dL_law_692 : decode cL_law 692 = .ok (.invokevirtual 88, 3) := by decide +kernel
theorem dL_law_695 : decode cL_law 695 = .ok (.aload_n 2, 1) := by decide +kernel
theorem dL_law_696 : decode cL_law 696 = .ok (.aload_n 0, 1) := by decide +kernel
theorem dL_law_697 : decode cL_law 697 = .ok (.iload_n 3, 1) := by decide +kernel
theorem dL_law_698 : decode cL_law 698 = .ok (.iconst 1, 1) := by decide +kernel
theorem dL_law_699 : decode cL_law 699 = .ok (.iadd, 1) := by decide +kernel
theorem dL_law_700 : decode cL_law 700 = .ok (.iaload, 1) := by decide +kernel
theorem dL_law_701 : decode cL_law 701 = .ok (.invokevirtual 91, 3) := by decide +kernel
theorem dL_law_704 : decode cL_law 704 = .ok (.if_icmp .eq 68, 3) := by decide +kernel
theorem dL_law_707 : decode cL_law 707 = .ok (.iconst 0, 1) := by decide +kernel
theorem dL_law_708 : decode cL_law 708 = .ok (.ireturn, 1) := by decide +kernel
theorem dL_law_709 : decode cL_law 709 = .ok (.aload_n 1, 1) := by decide +kernel
theorem dL_law_710 : decode cL_law 710 = .ok (.invokevirtual 92, 3) := by decide +kernel
theorem dL_law_713 : decode cL_law 713 = .ok (.aload_n 2, 1) := by decide +kernel
theorem dL_law_714 : decode cL_law 714 = .ok (.invokevirtual 95, 3) := by decide +kernel
theorem dL_law_717 : decode cL_law 717 = .ok (.if_icmp .eq 55, 3) := by decide +kernel
theorem dL_law_720 : decode cL_law 720 = .ok (.iconst 0, 1) := by decide +kernel
theorem dL_law_721 : decode cL_law 721 = .ok (.ireturn, 1) := by decide +kernel
theorem dL_law_722 : decode cL_law 722 = .ok (.aload_n 1, 1) := by decide +kernel
theorem dL_law_723 : decode cL_law 723 = .ok (.aload_n 0, 1) := by decide +kernel
theorem dL_law_724 : decode cL_law 724 = .ok (.iload_n 3, 1) := by decide +kernel
theorem dL_law_725 : decode cL_law 725 = .ok (.iconst 1, 1) := by decide +kernel
theorem dL_law_726 : decode cL_law 726 = .ok (.iadd, 1) := by decide +kernel
theorem dL_law_727 : decode cL_law 727 = .ok (.iaload, 1) := by decide +kernel
theorem dL_law_728 : decode cL_law 728 = .ok (.invokevirtual 96, 3) := by decide +kernel
theorem dL_law_731 : decode cL_law 731 = .ok (.aload_n 2, 1) := by decide +kernel
theorem dL_law_732 : decode cL_law 732 = .ok (.aload_n 0, 1) := by decide +kernel
theorem dL_law_733 : decode cL_law 733 = .ok (.iload_n 3, 1) := by decide +kernel
theorem dL_law_734 : decode cL_law 734 = .ok (.iconst 1, 1) := by decide +kernel
theorem dL_law_735 : decode cL_law 735 = .ok (.iadd, 1) := by decide +kernel
theorem dL_law_736 : decode cL_law 736 = .ok (.iaload, 1) := by decide +kernel
theorem dL_law_737 : decode cL_law 737 = .ok (.invokevirtual 99, 3) := by decide +kernel
theorem dL_law_740 : decode cL_law 740 = .ok (.if_icmp .eq 32, 3) := by decide +kernel
theorem dL_law_743 : decode cL_law 743 = .ok (.iconst 0, 1) := by decide +kernel
theorem dL_law_744 : decode cL_law 744 = .ok (.ireturn, 1) := by decide +kernel
theorem dL_law_745 : decode cL_law 745 = .ok (.aload_n 1, 1) := by decide +kernel
theorem dL_law_746 : decode cL_law 746 = .ok (.invokevirtual 100, 3) := by decide +kernel
theorem dL_law_749 : decode cL_law 749 = .ok (.aload_n 2, 1) := by decide +kernel
theorem dL_law_750 : decode cL_law 750 = .ok (.invokevirtual 103, 3) := by decide +kernel
theorem dL_law_753 : decode cL_law 753 = .ok (.if_icmp .eq 19, 3) := by decide +kernel
theorem dL_law_756 : decode cL_law 756 = .ok (.iconst 0, 1) := by decide +kernel
theorem dL_law_757 : decode cL_law 757 = .ok (.ireturn, 1) := by decide +kernel
theorem dL_law_758 : decode cL_law 758 = .ok (.aload_n 1, 1) := by decide +kernel
theorem dL_law_759 : decode cL_law 759 = .ok (.invokevirtual 104, 3) := by decide +kernel
theorem dL_law_762 : decode cL_law 762 = .ok (.aload_n 2, 1) := by decide +kernel
theorem dL_law_763 : decode cL_law 763 = .ok (.invokevirtual 107, 3) := by decide +kernel
theorem dL_law_766 : decode cL_law 766 = .ok (.lcmp, 1) := by decide +kernel
theorem dL_law_767 : decode cL_law 767 = .ok (.ifCond .eq 5, 3) := by decide +kernel
theorem dL_law_770 : decode cL_law 770 = .ok (.iconst 0, 1) := by decide +kernel
theorem dL_law_771 : decode cL_law 771 = .ok (.ireturn, 1) := by decide +kernel
theorem dL_law_772 : decode cL_law 772 = .ok (.iinc 3 6, 3) := by decide +kernel
theorem dL_law_775 : decode cL_law 775 = .ok (.goto (-757), 3) := by decide +kernel
theorem dL_law_778 : decode cL_law 778 = .ok (.iconst 1, 1) := by decide +kernel
theorem dL_law_779 : decode cL_law 779 = .ok (.ireturn, 1) := by decide +kernel
abbrev vwCl : List vw_C := [(RX0, TX0, 11), (RX1, TX1, 2), (RX2, TX2, 2), (RX3, TX3, 4), (RX4, TX4, 6), (RX5, TX5, 5), (RX6, TX6, 11)]
/-! ===== END printed: names ===== -/
