/-! ===== BEGIN printed: names, fields, word lists, decode rows ===== -/
def RX0 : String := "SegmentMerges$Memory"
def TX0 : u_T := fun k => match k with
  | 0 => ("SegmentMerges$Memory", "keys", "[I", true)
  | 1 => ("SegmentMerges$Memory", "values", "[I", true)
  | _ => ("SegmentMerges$Memory", "size", "I", false)
def tyX0 : Nat → FieldType := fun k => match k with
  | 0 => .array .int
  | 1 => .array .int
  | _ => .int
abbrev wsX00 : List Cond := u_ws RX0 TX0 3
theorem nmX0 : ∀ a, a < 3 → ∀ b, b < 3 → a ≠ b → (TX0 a).2.1 ≠ (TX0 b).2.1 := by decide +kernel
theorem tyX0_ok : ∀ k, k < 3 → parseFieldDescriptor (TX0 k).2.2.1 = some (tyX0 k) := by decide +kernel
abbrev cX0_init : ByteArray := prog_2_method_1_code
def yX0_init : MethodName := ⟨RX0, "<init>", "()V"⟩
abbrev cX0_find : ByteArray := prog_2_method_2_code
def yX0_find : MethodName := ⟨RX0, "find", "(I)I"⟩
abbrev cX0_append : ByteArray := prog_2_method_3_code
def yX0_append : MethodName := ⟨RX0, "append", "(II)V"⟩
abbrev cX0_removeAt : ByteArray := prog_2_method_4_code
def yX0_removeAt : MethodName := ⟨RX0, "removeAt", "(I)V"⟩
abbrev cX0_asSegment : ByteArray := prog_2_method_5_code
def yX0_asSegment : MethodName := ⟨RX0, "asSegment", "(I)LSegmentMerges$Segment;"⟩
abbrev cX0_rankOf : ByteArray := prog_2_method_6_code
def yX0_rankOf : MethodName := ⟨RX0, "rankOf", "(I)I"⟩
def RX1 : String := "SegmentMerges$Merge"
def TX1 : u_T := fun k => match k with
  | 0 => ("SegmentMerges$Merge", "place", "I", true)
  | 1 => ("SegmentMerges$Merge", "sources", "[LSegmentMerges$Segment;", true)
  | 2 => ("SegmentMerges$Merge", "takenOf", "[I", true)
  | 3 => ("SegmentMerges$Merge", "taken", "I", false)
  | 4 => ("SegmentMerges$Merge", "written", "I", false)
  | _ => ("SegmentMerges$Merge", "left", "I", false)
def tyX1 : Nat → FieldType := fun k => match k with
  | 0 => .int
  | 1 => .array (.object "SegmentMerges$Segment")
  | 2 => .array .int
  | 3 => .int
  | 4 => .int
  | _ => .int
abbrev wsX10 : List Cond := u_ws RX1 TX1 6
theorem nmX1 : ∀ a, a < 6 → ∀ b, b < 6 → a ≠ b → (TX1 a).2.1 ≠ (TX1 b).2.1 := by decide +kernel
theorem tyX1_ok : ∀ k, k < 6 → parseFieldDescriptor (TX1 k).2.2.1 = some (tyX1 k) := by decide +kernel
abbrev cX1_init : ByteArray := prog_3_method_1_code
def yX1_init : MethodName := ⟨RX1, "<init>", "([LSegmentMerges$Segment;II)V"⟩
abbrev cX1_isOf : ByteArray := prog_3_method_2_code
def yX1_isOf : MethodName := ⟨RX1, "isOf", "(I)Z"⟩
abbrev cX1_sourceOf : ByteArray := prog_3_method_3_code
def yX1_sourceOf : MethodName := ⟨RX1, "sourceOf", "(I)LSegmentMerges$Segment;"⟩
abbrev cX1_takeOne : ByteArray := prog_3_method_4_code
def yX1_takeOne : MethodName := ⟨RX1, "takeOne", "()V"⟩
abbrev cX1_sourceOfLeastKey : ByteArray := prog_3_method_5_code
def yX1_sourceOfLeastKey : MethodName := ⟨RX1, "sourceOfLeastKey", "()I"⟩
abbrev cX1_asSegment : ByteArray := prog_3_method_6_code
def yX1_asSegment : MethodName := ⟨RX1, "asSegment", "(I)LSegmentMerges$Segment;"⟩
abbrev cX1_greatestTier : ByteArray := prog_3_method_7_code
def yX1_greatestTier : MethodName := ⟨RX1, "greatestTier", "()I"⟩
def RX2 : String := "SegmentMerges$Segment"
def TX2 : u_T := fun k => match k with
  | 0 => ("SegmentMerges$Segment", "number", "I", true)
  | 1 => ("SegmentMerges$Segment", "tier", "I", true)
  | 2 => ("SegmentMerges$Segment", "size", "I", true)
  | 3 => ("SegmentMerges$Segment", "keys", "[I", true)
  | 4 => ("SegmentMerges$Segment", "values", "[I", true)
  | 5 => ("SegmentMerges$Segment", "lives", "[Z", true)
  | 6 => ("SegmentMerges$Segment", "wentTo", "[I", true)
  | _ => ("SegmentMerges$Segment", "living", "I", false)
def tyX2 : Nat → FieldType := fun k => match k with
  | 0 => .int
  | 1 => .int
  | 2 => .int
  | 3 => .array .int
  | 4 => .array .int
  | 5 => .array .boolean
  | 6 => .array .int
  | _ => .int
abbrev wsX20 : List Cond := u_ws RX2 TX2 8
theorem nmX2 : ∀ a, a < 8 → ∀ b, b < 8 → a ≠ b → (TX2 a).2.1 ≠ (TX2 b).2.1 := by decide +kernel
theorem tyX2_ok : ∀ k, k < 8 → parseFieldDescriptor (TX2 k).2.2.1 = some (tyX2 k) := by decide +kernel
abbrev cX2_init : ByteArray := prog_4_method_1_code
def yX2_init : MethodName := ⟨RX2, "<init>", "(III)V"⟩
abbrev cX2_write : ByteArray := prog_4_method_2_code
def yX2_write : MethodName := ⟨RX2, "write", "(IIIZ)V"⟩
abbrev cX2_hasRow : ByteArray := prog_4_method_3_code
def yX2_hasRow : MethodName := ⟨RX2, "hasRow", "(I)Z"⟩
abbrev cX2_kill : ByteArray := prog_4_method_4_code
def yX2_kill : MethodName := ⟨RX2, "kill", "(I)V"⟩
abbrev cX2_isDeaderThan : ByteArray := prog_4_method_5_code
def yX2_isDeaderThan : MethodName := ⟨RX2, "isDeaderThan", "(LSegmentMerges$Segment;)Z"⟩
def RX3 : String := "SegmentMerges"
def TX3 : u_T := fun k => match k with
  | 0 => ("SegmentMerges", "valueOf", "[I", true)
  | 1 => ("SegmentMerges", "memory", "LSegmentMerges$Memory;", true)
  | 2 => ("SegmentMerges", "segments", "[LSegmentMerges$Segment;", true)
  | 3 => ("SegmentMerges", "segmentCount", "I", false)
  | 4 => ("SegmentMerges", "nextNumber", "I", false)
  | 5 => ("SegmentMerges", "writtenRows", "I", false)
  | 6 => ("SegmentMerges", "fullSize", "I", false)
  | 7 => ("SegmentMerges", "current", "LSegmentMerges$Merge;", false)
  | 8 => ("SegmentMerges", "ended", "LSegmentMerges$Merge;", false)
  | 9 => ("SegmentMerges", "viewed", "[[I", true)
  | _ => ("SegmentMerges", "viewOpen", "[Z", true)
def tyX3 : Nat → FieldType := fun k => match k with
  | 0 => .array .int
  | 1 => .object "SegmentMerges$Memory"
  | 2 => .array (.object "SegmentMerges$Segment")
  | 3 => .int
  | 4 => .int
  | 5 => .int
  | 6 => .int
  | 7 => .object "SegmentMerges$Merge"
  | 8 => .object "SegmentMerges$Merge"
  | 9 => .array (.array .int)
  | _ => .array .boolean
abbrev wsX30 : List Cond := u_ws RX3 TX3 11
theorem nmX3 : ∀ a, a < 11 → ∀ b, b < 11 → a ≠ b → (TX3 a).2.1 ≠ (TX3 b).2.1 := by decide +kernel
theorem tyX3_ok : ∀ k, k < 11 → parseFieldDescriptor (TX3 k).2.2.1 = some (tyX3 k) := by decide +kernel
abbrev cX3_init : ByteArray := prog_1_method_1_code
def yX3_init : MethodName := ⟨RX3, "<init>", "()V"⟩
abbrev cX3_put : ByteArray := prog_1_method_2_code
def yX3_put : MethodName := ⟨RX3, "put", "(II)I"⟩
abbrev cX3_drop : ByteArray := prog_1_method_3_code
def yX3_drop : MethodName := ⟨RX3, "drop", "(I)I"⟩
abbrev cX3_get : ByteArray := prog_1_method_4_code
def yX3_get : MethodName := ⟨RX3, "get", "(I)I"⟩
abbrev cX3_next : ByteArray := prog_1_method_5_code
def yX3_next : MethodName := ⟨RX3, "next", "(I)I"⟩
abbrev cX3_flush : ByteArray := prog_1_method_6_code
def yX3_flush : MethodName := ⟨RX3, "flush", "()I"⟩
abbrev cX3_count : ByteArray := prog_1_method_7_code
def yX3_count : MethodName := ⟨RX3, "count", "(I)I"⟩
abbrev cX3_segment : ByteArray := prog_1_method_8_code
def yX3_segment : MethodName := ⟨RX3, "segment", "(II)I"⟩
abbrev cX3_row : ByteArray := prog_1_method_9_code
def yX3_row : MethodName := ⟨RX3, "row", "(III)I"⟩
abbrev cX3_full : ByteArray := prog_1_method_10_code
def yX3_full : MethodName := ⟨RX3, "full", "(I)I"⟩
abbrev cX3_due : ByteArray := prog_1_method_11_code
def yX3_due : MethodName := ⟨RX3, "due", "()I"⟩
abbrev cX3_cheapest : ByteArray := prog_1_method_12_code
def yX3_cheapest : MethodName := ⟨RX3, "cheapest", "(I)I"⟩
abbrev cX3_worst : ByteArray := prog_1_method_13_code
def yX3_worst : MethodName := ⟨RX3, "worst", "()I"⟩
abbrev cX3_begin : ByteArray := prog_1_method_14_code
def yX3_begin : MethodName := ⟨RX3, "begin", "(II)I"⟩
abbrev cX3_step : ByteArray := prog_1_method_15_code
def yX3_step : MethodName := ⟨RX3, "step", "(I)I"⟩
abbrev cX3_stop : ByteArray := prog_1_method_16_code
def yX3_stop : MethodName := ⟨RX3, "stop", "()I"⟩
abbrev cX3_merging : ByteArray := prog_1_method_17_code
def yX3_merging : MethodName := ⟨RX3, "merging", "(I)I"⟩
abbrev cX3_moved : ByteArray := prog_1_method_18_code
def yX3_moved : MethodName := ⟨RX3, "moved", "(II)I"⟩
abbrev cX3_view : ByteArray := prog_1_method_19_code
def yX3_view : MethodName := ⟨RX3, "view", "()I"⟩
abbrev cX3_seen : ByteArray := prog_1_method_20_code
def yX3_seen : MethodName := ⟨RX3, "seen", "(II)I"⟩
abbrev cX3_shut : ByteArray := prog_1_method_21_code
def yX3_shut : MethodName := ⟨RX3, "shut", "(I)I"⟩
abbrev cX3_share : ByteArray := prog_1_method_22_code
def yX3_share : MethodName := ⟨RX3, "share", "()I"⟩
abbrev cX3_isKey : ByteArray := prog_1_method_23_code
def yX3_isKey : MethodName := ⟨RX3, "isKey", "(I)Z"⟩
abbrev cX3_canBeMerged : ByteArray := prog_1_method_24_code
def yX3_canBeMerged : MethodName := ⟨RX3, "canBeMerged", "(I)Z"⟩
abbrev cX3_isPlace : ByteArray := prog_1_method_25_code
def yX3_isPlace : MethodName := ⟨RX3, "isPlace", "(I)Z"⟩
abbrev cX3_isOpenView : ByteArray := prog_1_method_26_code
def yX3_isOpenView : MethodName := ⟨RX3, "isOpenView", "(I)Z"⟩
abbrev cX3_killRowOf : ByteArray := prog_1_method_27_code
def yX3_killRowOf : MethodName := ⟨RX3, "killRowOf", "(I)V"⟩
abbrev cX3_rowsInSegments : ByteArray := prog_1_method_28_code
def yX3_rowsInSegments : MethodName := ⟨RX3, "rowsInSegments", "()I"⟩
abbrev cX3_livingFrom : ByteArray := prog_1_method_29_code
def yX3_livingFrom : MethodName := ⟨RX3, "livingFrom", "(II)I"⟩
abbrev cX3_isOfOneTier : ByteArray := prog_1_method_30_code
def yX3_isOfOneTier : MethodName := ⟨RX3, "isOfOneTier", "(II)Z"⟩
abbrev cX3_endMerge : ByteArray := prog_1_method_31_code
def yX3_endMerge : MethodName := ⟨RX3, "endMerge", "(LSegmentMerges$Merge;)V"⟩
abbrev cX3_closeGap : ByteArray := prog_1_method_32_code
def yX3_closeGap : MethodName := ⟨RX3, "closeGap", "(II)V"⟩
def RX4 : String := "SegmentMergesModel"
def TX4 : u_T := fun k => match k with
  | 0 => ("SegmentMergesModel", "thrown", "I", false)
  | 1 => ("SegmentMergesModel", "value", "[I", true)
  | 2 => ("SegmentMergesModel", "turn", "[I", true)
  | 3 => ("SegmentMergesModel", "inSlot", "[I", true)
  | 4 => ("SegmentMergesModel", "inRow", "[I", true)
  | 5 => ("SegmentMergesModel", "remembered", "I", false)
  | 6 => ("SegmentMergesModel", "memory", "[I", true)
  | 7 => ("SegmentMergesModel", "segments", "I", false)
  | 8 => ("SegmentMergesModel", "order", "[I", true)
  | 9 => ("SegmentMergesModel", "isUsed", "[Z", true)
  | 10 => ("SegmentMergesModel", "number", "[I", true)
  | 11 => ("SegmentMergesModel", "tier", "[I", true)
  | 12 => ("SegmentMergesModel", "rows", "[I", true)
  | 13 => ("SegmentMergesModel", "rowKey", "[I", true)
  | 14 => ("SegmentMergesModel", "rowValue", "[I", true)
  | 15 => ("SegmentMergesModel", "lives", "[Z", true)
  | 16 => ("SegmentMergesModel", "numbers", "I", false)
  | 17 => ("SegmentMergesModel", "written", "I", false)
  | 18 => ("SegmentMergesModel", "full", "I", false)
  | 19 => ("SegmentMergesModel", "merged", "I", false)
  | 20 => ("SegmentMergesModel", "mergePlace", "I", false)
  | 21 => ("SegmentMergesModel", "taken", "I", false)
  | 22 => ("SegmentMergesModel", "wrote", "I", false)
  | 23 => ("SegmentMergesModel", "at", "[I", true)
  | 24 => ("SegmentMergesModel", "newKey", "[I", true)
  | 25 => ("SegmentMergesModel", "newValue", "[I", true)
  | 26 => ("SegmentMergesModel", "newTurn", "[I", true)
  | 27 => ("SegmentMergesModel", "goes", "[I", true)
  | 28 => ("SegmentMergesModel", "movedMany", "I", false)
  | 29 => ("SegmentMergesModel", "movedNumber", "[I", true)
  | 30 => ("SegmentMergesModel", "movedRows", "[I", true)
  | 31 => ("SegmentMergesModel", "movedTo", "[I", true)
  | 32 => ("SegmentMergesModel", "isView", "[Z", true)
  | _ => ("SegmentMergesModel", "viewed", "[I", true)
def tyX4 : Nat → FieldType := fun k => match k with
  | 0 => .int
  | 1 => .array .int
  | 2 => .array .int
  | 3 => .array .int
  | 4 => .array .int
  | 5 => .int
  | 6 => .array .int
  | 7 => .int
  | 8 => .array .int
  | 9 => .array .boolean
  | 10 => .array .int
  | 11 => .array .int
  | 12 => .array .int
  | 13 => .array .int
  | 14 => .array .int
  | 15 => .array .boolean
  | 16 => .int
  | 17 => .int
  | 18 => .int
  | 19 => .int
  | 20 => .int
  | 21 => .int
  | 22 => .int
  | 23 => .array .int
  | 24 => .array .int
  | 25 => .array .int
  | 26 => .array .int
  | 27 => .array .int
  | 28 => .int
  | 29 => .array .int
  | 30 => .array .int
  | 31 => .array .int
  | 32 => .array .boolean
  | _ => .array .int
abbrev wsX40 : List Cond := u_ws RX4 TX4 34
theorem nmX4 : ∀ a, a < 34 → ∀ b, b < 34 → a ≠ b → (TX4 a).2.1 ≠ (TX4 b).2.1 := by decide +kernel
theorem tyX4_ok : ∀ k, k < 34 → parseFieldDescriptor (TX4 k).2.2.1 = some (tyX4 k) := by decide +kernel
abbrev cX4_init : ByteArray := prog_6_method_1_code
def yX4_init : MethodName := ⟨RX4, "<init>", "()V"⟩
abbrev cX4_thrown : ByteArray := prog_6_method_2_code
def yX4_thrown : MethodName := ⟨RX4, "thrown", "()I"⟩
abbrev cX4_in : ByteArray := prog_6_method_3_code
def yX4_in : MethodName := ⟨RX4, "in", "(III)Z"⟩
abbrev cX4_memoryAt : ByteArray := prog_6_method_4_code
def yX4_memoryAt : MethodName := ⟨RX4, "memoryAt", "(I)I"⟩
abbrev cX4_die : ByteArray := prog_6_method_5_code
def yX4_die : MethodName := ⟨RX4, "die", "(I)V"⟩
abbrev cX4_put : ByteArray := prog_6_method_6_code
def yX4_put : MethodName := ⟨RX4, "put", "(II)I"⟩
abbrev cX4_drop : ByteArray := prog_6_method_7_code
def yX4_drop : MethodName := ⟨RX4, "drop", "(I)I"⟩
abbrev cX4_get : ByteArray := prog_6_method_8_code
def yX4_get : MethodName := ⟨RX4, "get", "(I)I"⟩
abbrev cX4_next : ByteArray := prog_6_method_9_code
def yX4_next : MethodName := ⟨RX4, "next", "(I)I"⟩
abbrev cX4_freeSlot : ByteArray := prog_6_method_10_code
def yX4_freeSlot : MethodName := ⟨RX4, "freeSlot", "()I"⟩
abbrev cX4_lay : ByteArray := prog_6_method_11_code
def yX4_lay : MethodName := ⟨RX4, "lay", "(IIIZ)V"⟩
abbrev cX4_flush : ByteArray := prog_6_method_12_code
def yX4_flush : MethodName := ⟨RX4, "flush", "()I"⟩
abbrev cX4_livingOf : ByteArray := prog_6_method_13_code
def yX4_livingOf : MethodName := ⟨RX4, "livingOf", "(I)I"⟩
abbrev cX4_all : ByteArray := prog_6_method_14_code
def yX4_all : MethodName := ⟨RX4, "all", "(Z)I"⟩
abbrev cX4_count : ByteArray := prog_6_method_15_code
def yX4_count : MethodName := ⟨RX4, "count", "(I)I"⟩
abbrev cX4_isPlace : ByteArray := prog_6_method_16_code
def yX4_isPlace : MethodName := ⟨RX4, "isPlace", "(I)Z"⟩
abbrev cX4_segment : ByteArray := prog_6_method_17_code
def yX4_segment : MethodName := ⟨RX4, "segment", "(II)I"⟩
abbrev cX4_row : ByteArray := prog_6_method_18_code
def yX4_row : MethodName := ⟨RX4, "row", "(III)I"⟩
abbrev cX4_full : ByteArray := prog_6_method_19_code
def yX4_full : MethodName := ⟨RX4, "full", "(I)I"⟩
abbrev cX4_due : ByteArray := prog_6_method_20_code
def yX4_due : MethodName := ⟨RX4, "due", "()I"⟩
abbrev cX4_cheapest : ByteArray := prog_6_method_21_code
def yX4_cheapest : MethodName := ⟨RX4, "cheapest", "(I)I"⟩
abbrev cX4_worst : ByteArray := prog_6_method_22_code
def yX4_worst : MethodName := ⟨RX4, "worst", "()I"⟩
abbrev cX4_begin : ByteArray := prog_6_method_23_code
def yX4_begin : MethodName := ⟨RX4, "begin", "(II)I"⟩
abbrev cX4_slotOf : ByteArray := prog_6_method_24_code
def yX4_slotOf : MethodName := ⟨RX4, "slotOf", "(I)I"⟩
abbrev cX4_left : ByteArray := prog_6_method_25_code
def yX4_left : MethodName := ⟨RX4, "left", "()I"⟩
abbrev cX4_takeOne : ByteArray := prog_6_method_26_code
def yX4_takeOne : MethodName := ⟨RX4, "takeOne", "()V"⟩
abbrev cX4_keyAt : ByteArray := prog_6_method_27_code
def yX4_keyAt : MethodName := ⟨RX4, "keyAt", "(I)I"⟩
abbrev cX4_step : ByteArray := prog_6_method_28_code
def yX4_step : MethodName := ⟨RX4, "step", "(I)I"⟩
abbrev cX4_end : ByteArray := prog_6_method_29_code
def yX4_end : MethodName := ⟨RX4, "end", "()V"⟩
abbrev cX4_stop : ByteArray := prog_6_method_30_code
def yX4_stop : MethodName := ⟨RX4, "stop", "()I"⟩
abbrev cX4_merging : ByteArray := prog_6_method_31_code
def yX4_merging : MethodName := ⟨RX4, "merging", "(I)I"⟩
abbrev cX4_moved : ByteArray := prog_6_method_32_code
def yX4_moved : MethodName := ⟨RX4, "moved", "(II)I"⟩
abbrev cX4_view : ByteArray := prog_6_method_33_code
def yX4_view : MethodName := ⟨RX4, "view", "()I"⟩
abbrev cX4_isOpen : ByteArray := prog_6_method_34_code
def yX4_isOpen : MethodName := ⟨RX4, "isOpen", "(I)Z"⟩
abbrev cX4_seen : ByteArray := prog_6_method_35_code
def yX4_seen : MethodName := ⟨RX4, "seen", "(II)I"⟩
abbrev cX4_shut : ByteArray := prog_6_method_36_code
def yX4_shut : MethodName := ⟨RX4, "shut", "(I)I"⟩
abbrev cX4_share : ByteArray := prog_6_method_37_code
def yX4_share : MethodName := ⟨RX4, "share", "()I"⟩
def RJ9 : String := "java/lang/Math"
def TJ9 : u_T := fun k => match k with
  | _ => ("", "", "", false)
def tyJ9 : Nat → FieldType := fun k => match k with
  | _ => .int
abbrev wsJ90 : List Cond := u_ws RJ9 TJ9 0
theorem nmJ9 : ∀ a, a < 0 → ∀ b, b < 0 → a ≠ b → (TJ9 a).2.1 ≠ (TJ9 b).2.1 := by decide +kernel
theorem tyJ9_ok : ∀ k, k < 0 → parseFieldDescriptor (TJ9 k).2.2.1 = some (tyJ9 k) := by decide +kernel
abbrev cJ9_max_7cf53 : ByteArray := prog_9_method_65_code
def yJ9_max_7cf53 : MethodName := ⟨RJ9, "max", "(II)I"⟩
def RJ0 : String := "java/lang/String"
def TJ0 : u_T := fun k => match k with
  | _ => ("", "", "", false)
def tyJ0 : Nat → FieldType := fun k => match k with
  | _ => .int
abbrev wsJ00 : List Cond := u_ws RJ0 TJ0 0
theorem nmJ0 : ∀ a, a < 0 → ∀ b, b < 0 → a ≠ b → (TJ0 a).2.1 ≠ (TJ0 b).2.1 := by decide +kernel
theorem tyJ0_ok : ∀ k, k < 0 → parseFieldDescriptor (TJ0 k).2.2.1 = some (tyJ0 k) := by decide +kernel
def RJ10 : String := "java/lang/System"
def TJ10 : u_T := fun k => match k with
  | _ => ("", "", "", false)
def tyJ10 : Nat → FieldType := fun k => match k with
  | _ => .int
abbrev wsJ100 : List Cond := u_ws RJ10 TJ10 0
theorem nmJ10 : ∀ a, a < 0 → ∀ b, b < 0 → a ≠ b → (TJ10 a).2.1 ≠ (TJ10 b).2.1 := by decide +kernel
theorem tyJ10_ok : ∀ k, k < 0 → parseFieldDescriptor (TJ10 k).2.2.1 = some (tyJ10 k) := by decide +kernel
def RJ7 : String := "java/util/Arrays"
def TJ7 : u_T := fun k => match k with
  | _ => ("", "", "", false)
def tyJ7 : Nat → FieldType := fun k => match k with
  | _ => .int
abbrev wsJ70 : List Cond := u_ws RJ7 TJ7 0
theorem nmJ7 : ∀ a, a < 0 → ∀ b, b < 0 → a ≠ b → (TJ7 a).2.1 ≠ (TJ7 b).2.1 := by decide +kernel
theorem tyJ7_ok : ∀ k, k < 0 → parseFieldDescriptor (TJ7 k).2.2.1 = some (tyJ7 k) := by decide +kernel
abbrev cJ7_fill_53178 : ByteArray := prog_14_method_103_code
def yJ7_fill_53178 : MethodName := ⟨RJ7, "fill", "([II)V"⟩
def RL : String := "SegmentMergesLaw"
abbrev cL_share : ByteArray := method_3_code
def yL_share : MethodName := ⟨RL, "share", "(LSegmentMerges;[J)I"⟩
abbrev cL_law : ByteArray := code
def yL_law : MethodName := ⟨RL, "law", "([I)Z"⟩
def wsX0_init : List Cond := .code yX0_init cX0_init 1 none :: ([.methodLink RX0 3 objectInit, .instanceMethod objectInit, .code objectInit ⟨#[0xb1]⟩ 1 none, .arrayClass .int, .fieldLink RX0 9 "SegmentMerges$Memory" "keys" "[I", .fieldLink RX0 15 "SegmentMerges$Memory" "values" "[I", .fieldLink RX0 18 "SegmentMerges$Memory" "size" "I"] ++ wsX00)
def wsX0_find : List Cond := .code yX0_find cX0_find 3 (some .int) :: ([.fieldLink RX0 18 "SegmentMerges$Memory" "size" "I", .fieldLink RX0 9 "SegmentMerges$Memory" "keys" "[I"] ++ wsX00)
def wsX0_append : List Cond := .code yX0_append cX0_append 3 none :: ([.fieldLink RX0 9 "SegmentMerges$Memory" "keys" "[I", .fieldLink RX0 18 "SegmentMerges$Memory" "size" "I", .fieldLink RX0 15 "SegmentMerges$Memory" "values" "[I"] ++ wsX00)
def wsX0_removeAt : List Cond := .code yX0_removeAt cX0_removeAt 3 none :: ([.fieldLink RX0 18 "SegmentMerges$Memory" "size" "I", .fieldLink RX0 9 "SegmentMerges$Memory" "keys" "[I", .fieldLink RX0 15 "SegmentMerges$Memory" "values" "[I"] ++ wsX00)
def wsX2_init : List Cond := .code yX2_init cX2_init 4 none :: ([.methodLink RX2 1 objectInit, .instanceMethod objectInit, .code objectInit ⟨#[0xb1]⟩ 1 none, .fieldLink RX2 7 "SegmentMerges$Segment" "living" "I", .fieldLink RX2 13 "SegmentMerges$Segment" "number" "I", .fieldLink RX2 16 "SegmentMerges$Segment" "tier" "I", .fieldLink RX2 19 "SegmentMerges$Segment" "size" "I", .arrayClass .int, .fieldLink RX2 22 "SegmentMerges$Segment" "keys" "[I", .fieldLink RX2 26 "SegmentMerges$Segment" "values" "[I", .arrayClass .boolean, .fieldLink RX2 29 "SegmentMerges$Segment" "lives" "[Z", .fieldLink RX2 33 "SegmentMerges$Segment" "wentTo" "[I"] ++ wsX20)
def wsX0_rankOf : List Cond := .code yX0_rankOf cX0_rankOf 4 (some .int) :: ([.fieldLink RX0 18 "SegmentMerges$Memory" "size" "I", .fieldLink RX0 9 "SegmentMerges$Memory" "keys" "[I"] ++ wsX00)
def wsX2_write : List Cond := .code yX2_write cX2_write 5 none :: ([.fieldLink RX2 22 "SegmentMerges$Segment" "keys" "[I", .fieldLink RX2 26 "SegmentMerges$Segment" "values" "[I", .fieldLink RX2 29 "SegmentMerges$Segment" "lives" "[Z", .fieldLink RX2 7 "SegmentMerges$Segment" "living" "I"] ++ wsX20)
def wsX0_asSegment_r1 : List Cond := [Cond.classLink RX0 22 RX2, Cond.instantiable RX2 8, Cond.initialized RX2, Cond.fieldLink RX0 18 "SegmentMerges$Memory" "size" "I", Cond.fieldLink RX0 9 "SegmentMerges$Memory" "keys" "[I", Cond.fieldLink RX0 15 "SegmentMerges$Memory" "values" "[I", Cond.methodLink RX0 24 yX2_init, Cond.instanceMethod yX2_init, Cond.code yX2_init cX2_init 4 none, Cond.methodLink RX2 1 objectInit, Cond.instanceMethod objectInit, Cond.code objectInit ⟨#[0xb1]⟩ 1 none, Cond.fieldLink RX2 7 "SegmentMerges$Segment" "living" "I", Cond.fieldLink RX2 13 "SegmentMerges$Segment" "number" "I", Cond.fieldLink RX2 16 "SegmentMerges$Segment" "tier" "I", Cond.fieldLink RX2 19 "SegmentMerges$Segment" "size" "I", Cond.arrayClass .int, Cond.fieldLink RX2 22 "SegmentMerges$Segment" "keys" "[I", Cond.fieldLink RX2 26 "SegmentMerges$Segment" "values" "[I", Cond.arrayClass .boolean, Cond.fieldLink RX2 29 "SegmentMerges$Segment" "lives" "[Z", Cond.fieldLink RX2 33 "SegmentMerges$Segment" "wentTo" "[I", Cond.methodLink RX0 27 yX0_rankOf, Cond.instanceMethod yX0_rankOf]
def wsX0_asSegment_r2 : List Cond := [Cond.selects RX0 yX0_rankOf yX0_rankOf, Cond.initialized RX0, Cond.code yX0_rankOf cX0_rankOf 4 (some .int), Cond.methodLink RX0 31 yX2_write, Cond.instanceMethod yX2_write, Cond.selects RX2 yX2_write yX2_write, Cond.code yX2_write cX2_write 5 none]
def wsX0_asSegment : List Cond := .code yX0_asSegment cX0_asSegment 4 (some (.object "SegmentMerges$Segment")) :: ((wsX0_asSegment_r1 ++ wsX0_asSegment_r2) ++ wsX20 ++ wsX00)
def wsX1_init : List Cond := .code yX1_init cX1_init 5 none :: ([.methodLink RX1 3 objectInit, .instanceMethod objectInit, .code objectInit ⟨#[0xb1]⟩ 1 none, .fieldLink RX1 9 "SegmentMerges$Merge" "taken" "I", .fieldLink RX1 15 "SegmentMerges$Merge" "written" "I", .fieldLink RX1 18 "SegmentMerges$Merge" "left" "I", .fieldLink RX1 21 "SegmentMerges$Merge" "place" "I", .classLink RX1 24 RX2, .fieldLink RX1 26 "SegmentMerges$Merge" "sources" "[LSegmentMerges$Segment;", .arrayClass .int, .fieldLink RX1 30 "SegmentMerges$Merge" "takenOf" "[I", .fieldLink RX1 34 "SegmentMerges$Segment" "size" "I"] ++ wsX10 ++ wsX20)
def wsX1_isOf : List Cond := .code yX1_isOf cX1_isOf 2 (some .boolean) :: ([.fieldLink RX1 21 "SegmentMerges$Merge" "place" "I", .fieldLink RX1 26 "SegmentMerges$Merge" "sources" "[LSegmentMerges$Segment;"] ++ wsX10)
def wsX1_sourceOf : List Cond := .code yX1_sourceOf cX1_sourceOf 3 (some (.object "SegmentMerges$Segment")) :: ([.fieldLink RX1 26 "SegmentMerges$Merge" "sources" "[LSegmentMerges$Segment;", .fieldLink RX1 37 "SegmentMerges$Segment" "number" "I"] ++ wsX10 ++ wsX20)
def wsX1_sourceOfLeastKey : List Cond := .code yX1_sourceOfLeastKey cX1_sourceOfLeastKey 4 (some .int) :: ([.fieldLink RX1 26 "SegmentMerges$Merge" "sources" "[LSegmentMerges$Segment;", .fieldLink RX1 30 "SegmentMerges$Merge" "takenOf" "[I", .fieldLink RX1 34 "SegmentMerges$Segment" "size" "I", .fieldLink RX1 51 "SegmentMerges$Segment" "keys" "[I"] ++ wsX10 ++ wsX20)
def wsX1_takeOne : List Cond := .code yX1_takeOne cX1_takeOne 4 none :: ([.fieldLink RX1 26 "SegmentMerges$Merge" "sources" "[LSegmentMerges$Segment;", .fieldLink RX1 30 "SegmentMerges$Merge" "takenOf" "[I", .fieldLink RX1 44 "SegmentMerges$Segment" "lives" "[Z", .fieldLink RX1 48 "SegmentMerges$Segment" "wentTo" "[I", .fieldLink RX1 15 "SegmentMerges$Merge" "written" "I", .fieldLink RX1 9 "SegmentMerges$Merge" "taken" "I", .fieldLink RX1 18 "SegmentMerges$Merge" "left" "I", .methodLink RX1 40 yX1_sourceOfLeastKey, .instanceMethod yX1_sourceOfLeastKey, .selects RX1 yX1_sourceOfLeastKey yX1_sourceOfLeastKey, .initialized RX1, .code yX1_sourceOfLeastKey cX1_sourceOfLeastKey 4 (some .int), .fieldLink RX1 34 "SegmentMerges$Segment" "size" "I", .fieldLink RX1 51 "SegmentMerges$Segment" "keys" "[I"] ++ wsX10 ++ wsX20)
def wsX1_greatestTier : List Cond := .code yX1_greatestTier cX1_greatestTier 3 (some .int) :: ([.fieldLink RX1 26 "SegmentMerges$Merge" "sources" "[LSegmentMerges$Segment;", .fieldLink RX1 67 "SegmentMerges$Segment" "tier" "I", .methodLink RX1 70 Lib.Math.max.name, .static Lib.Math.max.name, .initialized "java/lang/Math", .code Lib.Math.max.name Lib.Math.max.code 2 (some .int)] ++ wsX10 ++ wsX20)
def wsX1_asSegment_r1 : List Cond := [Cond.classLink RX1 24 RX2, Cond.instantiable RX2 8, Cond.initialized RX2, Cond.fieldLink RX1 15 "SegmentMerges$Merge" "written" "I", Cond.fieldLink RX1 26 "SegmentMerges$Merge" "sources" "[LSegmentMerges$Segment;", Cond.fieldLink RX1 34 "SegmentMerges$Segment" "size" "I", Cond.fieldLink RX1 48 "SegmentMerges$Segment" "wentTo" "[I", Cond.fieldLink RX1 51 "SegmentMerges$Segment" "keys" "[I", Cond.fieldLink RX1 60 "SegmentMerges$Segment" "values" "[I", Cond.fieldLink RX1 44 "SegmentMerges$Segment" "lives" "[Z", Cond.methodLink RX1 54 yX1_greatestTier, Cond.instanceMethod yX1_greatestTier, Cond.selects RX1 yX1_greatestTier yX1_greatestTier, Cond.initialized RX1, Cond.code yX1_greatestTier cX1_greatestTier 3 (some .int), Cond.fieldLink RX1 67 "SegmentMerges$Segment" "tier" "I", Cond.methodLink RX1 70 Lib.Math.max.name, Cond.static Lib.Math.max.name, Cond.initialized "java/lang/Math", Cond.code Lib.Math.max.name Lib.Math.max.code 2 (some .int), Cond.methodLink RX1 57 yX2_init, Cond.instanceMethod yX2_init, Cond.code yX2_init cX2_init 4 none, Cond.methodLink RX2 1 objectInit]
def wsX1_asSegment_r2 : List Cond := [Cond.instanceMethod objectInit, Cond.code objectInit ⟨#[0xb1]⟩ 1 none, Cond.fieldLink RX2 7 "SegmentMerges$Segment" "living" "I", Cond.fieldLink RX2 13 "SegmentMerges$Segment" "number" "I", Cond.fieldLink RX2 16 "SegmentMerges$Segment" "tier" "I", Cond.fieldLink RX2 19 "SegmentMerges$Segment" "size" "I", Cond.arrayClass .int, Cond.fieldLink RX2 22 "SegmentMerges$Segment" "keys" "[I", Cond.fieldLink RX2 26 "SegmentMerges$Segment" "values" "[I", Cond.arrayClass .boolean, Cond.fieldLink RX2 29 "SegmentMerges$Segment" "lives" "[Z", Cond.fieldLink RX2 33 "SegmentMerges$Segment" "wentTo" "[I", Cond.methodLink RX1 63 yX2_write, Cond.instanceMethod yX2_write, Cond.selects RX2 yX2_write yX2_write, Cond.code yX2_write cX2_write 5 none]
def wsX1_asSegment : List Cond := .code yX1_asSegment cX1_asSegment 6 (some (.object "SegmentMerges$Segment")) :: ((wsX1_asSegment_r1 ++ wsX1_asSegment_r2) ++ wsX20 ++ wsX10)
def wsX2_hasRow : List Cond := .code yX2_hasRow cX2_hasRow 2 (some .boolean) :: ([.fieldLink RX2 19 "SegmentMerges$Segment" "size" "I"] ++ wsX20)
def wsX2_kill : List Cond := .code yX2_kill cX2_kill 3 none :: ([.fieldLink RX2 19 "SegmentMerges$Segment" "size" "I", .fieldLink RX2 22 "SegmentMerges$Segment" "keys" "[I", .fieldLink RX2 29 "SegmentMerges$Segment" "lives" "[Z", .fieldLink RX2 7 "SegmentMerges$Segment" "living" "I"] ++ wsX20)
def wsX2_isDeaderThan : List Cond := .code yX2_isDeaderThan cX2_isDeaderThan 2 (some .boolean) :: ([.fieldLink RX2 19 "SegmentMerges$Segment" "size" "I", .fieldLink RX2 7 "SegmentMerges$Segment" "living" "I"] ++ wsX20)
def wsJ7_fill_53178 : List Cond := .code yJ7_fill_53178 cJ7_fill_53178 4 none :: ([])
def wsX3_init_r1 : List Cond := [Cond.methodLink RX3 1 objectInit, Cond.instanceMethod objectInit, Cond.code objectInit ⟨#[0xb1]⟩ 1 none, Cond.arrayClass .int, Cond.fieldLink RX3 9 "SegmentMerges" "valueOf" "[I", Cond.classLink RX3 13 RX0, Cond.instantiable RX0 3, Cond.initialized RX0, Cond.fieldLink RX3 16 "SegmentMerges" "memory" "LSegmentMerges$Memory;", Cond.classLink RX3 20 RX2, Cond.fieldLink RX3 22 "SegmentMerges" "segments" "[LSegmentMerges$Segment;", Cond.fieldLink RX3 26 "SegmentMerges" "segmentCount" "I", Cond.fieldLink RX3 30 "SegmentMerges" "nextNumber" "I", Cond.fieldLink RX3 33 "SegmentMerges" "writtenRows" "I", Cond.fieldLink RX3 36 "SegmentMerges" "fullSize" "I", Cond.fieldLink RX3 39 "SegmentMerges" "current" "LSegmentMerges$Merge;", Cond.fieldLink RX3 43 "SegmentMerges" "ended" "LSegmentMerges$Merge;", Cond.classLink RX3 46 "[[I", Cond.fieldLink RX3 48 "SegmentMerges" "viewed" "[[I", Cond.arrayClass .boolean, Cond.fieldLink RX3 51 "SegmentMerges" "viewOpen" "[Z", Cond.instanceMethod yX0_init, Cond.code yX0_init cX0_init 1 none, Cond.methodLink RX0 3 objectInit]
def wsX3_init_r2 : List Cond := [Cond.fieldLink RX0 9 "SegmentMerges$Memory" "keys" "[I", Cond.fieldLink RX0 15 "SegmentMerges$Memory" "values" "[I", Cond.fieldLink RX0 18 "SegmentMerges$Memory" "size" "I", Cond.methodLink RX3 55 yJ7_fill_53178, Cond.static yJ7_fill_53178, Cond.initialized RJ7, Cond.code yJ7_fill_53178 cJ7_fill_53178 4 none]
def wsX3_init : List Cond := .code yX3_init cX3_init 1 none :: ((wsX3_init_r1 ++ wsX3_init_r2) ++ wsX30 ++ wsX00)
def wsX3_isKey : List Cond := .code yX3_isKey cX3_isKey 1 (some .boolean) :: ([])
def wsX3_killRowOf : List Cond := .code yX3_killRowOf cX3_killRowOf 3 none :: ([.fieldLink RX3 26 "SegmentMerges" "segmentCount" "I", .fieldLink RX3 22 "SegmentMerges" "segments" "[LSegmentMerges$Segment;", .methodLink RX3 181 yX2_kill, .instanceMethod yX2_kill, .selects RX2 yX2_kill yX2_kill, .initialized RX2, .code yX2_kill cX2_kill 3 none, .fieldLink RX2 19 "SegmentMerges$Segment" "size" "I", .fieldLink RX2 22 "SegmentMerges$Segment" "keys" "[I", .fieldLink RX2 29 "SegmentMerges$Segment" "lives" "[Z", .fieldLink RX2 7 "SegmentMerges$Segment" "living" "I"] ++ wsX30 ++ wsX20)
def wsX3_put_r1 : List Cond := [Cond.fieldLink RX3 16 "SegmentMerges" "memory" "LSegmentMerges$Memory;", Cond.fieldLink RX3 69 "SegmentMerges$Memory" "size" "I", Cond.fieldLink RX3 80 "SegmentMerges$Memory" "values" "[I", Cond.fieldLink RX3 9 "SegmentMerges" "valueOf" "[I", Cond.methodLink RX3 61 yX3_isKey, Cond.static yX3_isKey, Cond.initialized RX3, Cond.code yX3_isKey cX3_isKey 1 (some .boolean), Cond.methodLink RX3 65 yX0_find, Cond.instanceMethod yX0_find, Cond.selects RX0 yX0_find yX0_find, Cond.initialized RX0, Cond.code yX0_find cX0_find 3 (some .int), Cond.fieldLink RX0 18 "SegmentMerges$Memory" "size" "I", Cond.fieldLink RX0 9 "SegmentMerges$Memory" "keys" "[I", Cond.methodLink RX3 72 yX3_killRowOf, Cond.instanceMethod yX3_killRowOf, Cond.selects RX3 yX3_killRowOf yX3_killRowOf, Cond.code yX3_killRowOf cX3_killRowOf 3 none, Cond.fieldLink RX3 26 "SegmentMerges" "segmentCount" "I", Cond.fieldLink RX3 22 "SegmentMerges" "segments" "[LSegmentMerges$Segment;", Cond.methodLink RX3 181 yX2_kill, Cond.instanceMethod yX2_kill, Cond.selects RX2 yX2_kill yX2_kill]
def wsX3_put_r2 : List Cond := [Cond.initialized RX2, Cond.code yX2_kill cX2_kill 3 none, Cond.fieldLink RX2 19 "SegmentMerges$Segment" "size" "I", Cond.fieldLink RX2 22 "SegmentMerges$Segment" "keys" "[I", Cond.fieldLink RX2 29 "SegmentMerges$Segment" "lives" "[Z", Cond.fieldLink RX2 7 "SegmentMerges$Segment" "living" "I", Cond.methodLink RX3 76 yX0_append, Cond.instanceMethod yX0_append, Cond.selects RX0 yX0_append yX0_append, Cond.code yX0_append cX0_append 3 none, Cond.fieldLink RX0 15 "SegmentMerges$Memory" "values" "[I"]
def wsX3_put : List Cond := .code yX3_put cX3_put 4 (some .int) :: ((wsX3_put_r1 ++ wsX3_put_r2) ++ wsX30 ++ wsX00 ++ wsX20)
def wsX3_drop_r1 : List Cond := [Cond.fieldLink RX3 9 "SegmentMerges" "valueOf" "[I", Cond.fieldLink RX3 16 "SegmentMerges" "memory" "LSegmentMerges$Memory;", Cond.methodLink RX3 61 yX3_isKey, Cond.static yX3_isKey, Cond.initialized RX3, Cond.code yX3_isKey cX3_isKey 1 (some .boolean), Cond.methodLink RX3 65 yX0_find, Cond.instanceMethod yX0_find, Cond.selects RX0 yX0_find yX0_find, Cond.initialized RX0, Cond.code yX0_find cX0_find 3 (some .int), Cond.fieldLink RX0 18 "SegmentMerges$Memory" "size" "I", Cond.fieldLink RX0 9 "SegmentMerges$Memory" "keys" "[I", Cond.methodLink RX3 72 yX3_killRowOf, Cond.instanceMethod yX3_killRowOf, Cond.selects RX3 yX3_killRowOf yX3_killRowOf, Cond.code yX3_killRowOf cX3_killRowOf 3 none, Cond.fieldLink RX3 26 "SegmentMerges" "segmentCount" "I", Cond.fieldLink RX3 22 "SegmentMerges" "segments" "[LSegmentMerges$Segment;", Cond.methodLink RX3 181 yX2_kill, Cond.instanceMethod yX2_kill, Cond.selects RX2 yX2_kill yX2_kill, Cond.initialized RX2, Cond.code yX2_kill cX2_kill 3 none]
def wsX3_drop_r2 : List Cond := [Cond.fieldLink RX2 19 "SegmentMerges$Segment" "size" "I", Cond.fieldLink RX2 22 "SegmentMerges$Segment" "keys" "[I", Cond.fieldLink RX2 29 "SegmentMerges$Segment" "lives" "[Z", Cond.fieldLink RX2 7 "SegmentMerges$Segment" "living" "I", Cond.methodLink RX3 83 yX0_removeAt, Cond.instanceMethod yX0_removeAt, Cond.selects RX0 yX0_removeAt yX0_removeAt, Cond.code yX0_removeAt cX0_removeAt 3 none, Cond.fieldLink RX0 15 "SegmentMerges$Memory" "values" "[I"]
def wsX3_drop : List Cond := .code yX3_drop cX3_drop 3 (some .int) :: ((wsX3_drop_r1 ++ wsX3_drop_r2) ++ wsX30 ++ wsX00 ++ wsX20)
def wsX3_get : List Cond := .code yX3_get cX3_get 2 (some .int) :: ([.fieldLink RX3 9 "SegmentMerges" "valueOf" "[I", .methodLink RX3 61 yX3_isKey, .static yX3_isKey, .initialized RX3, .code yX3_isKey cX3_isKey 1 (some .boolean)] ++ wsX30)
def wsX3_next : List Cond := .code yX3_next cX3_next 3 (some .int) :: ([.fieldLink RX3 9 "SegmentMerges" "valueOf" "[I", .methodLink RX3 61 yX3_isKey, .static yX3_isKey, .initialized RX3, .code yX3_isKey cX3_isKey 1 (some .boolean)] ++ wsX30)
def wsX3_flush_r1 : List Cond := [Cond.fieldLink RX3 16 "SegmentMerges" "memory" "LSegmentMerges$Memory;", Cond.fieldLink RX3 69 "SegmentMerges$Memory" "size" "I", Cond.fieldLink RX3 26 "SegmentMerges" "segmentCount" "I", Cond.fieldLink RX3 30 "SegmentMerges" "nextNumber" "I", Cond.fieldLink RX3 22 "SegmentMerges" "segments" "[LSegmentMerges$Segment;", Cond.fieldLink RX3 33 "SegmentMerges" "writtenRows" "I", Cond.fieldLink RX3 90 "SegmentMerges$Segment" "size" "I", Cond.fieldLink RX3 91 "SegmentMerges$Segment" "number" "I", Cond.methodLink RX3 86 yX0_asSegment, Cond.instanceMethod yX0_asSegment, Cond.selects RX0 yX0_asSegment yX0_asSegment, Cond.initialized RX0, Cond.code yX0_asSegment cX0_asSegment 4 (some (.object "SegmentMerges$Segment")), Cond.classLink RX0 22 RX2, Cond.instantiable RX2 8, Cond.initialized RX2, Cond.fieldLink RX0 18 "SegmentMerges$Memory" "size" "I", Cond.fieldLink RX0 9 "SegmentMerges$Memory" "keys" "[I", Cond.fieldLink RX0 15 "SegmentMerges$Memory" "values" "[I", Cond.methodLink RX0 24 yX2_init, Cond.instanceMethod yX2_init, Cond.code yX2_init cX2_init 4 none, Cond.methodLink RX2 1 objectInit, Cond.instanceMethod objectInit]
def wsX3_flush_r2 : List Cond := [Cond.code objectInit ⟨#[0xb1]⟩ 1 none, Cond.fieldLink RX2 7 "SegmentMerges$Segment" "living" "I", Cond.fieldLink RX2 13 "SegmentMerges$Segment" "number" "I", Cond.fieldLink RX2 16 "SegmentMerges$Segment" "tier" "I", Cond.fieldLink RX2 19 "SegmentMerges$Segment" "size" "I", Cond.arrayClass .int, Cond.fieldLink RX2 22 "SegmentMerges$Segment" "keys" "[I", Cond.fieldLink RX2 26 "SegmentMerges$Segment" "values" "[I", Cond.arrayClass .boolean, Cond.fieldLink RX2 29 "SegmentMerges$Segment" "lives" "[Z", Cond.fieldLink RX2 33 "SegmentMerges$Segment" "wentTo" "[I", Cond.methodLink RX0 27 yX0_rankOf, Cond.instanceMethod yX0_rankOf, Cond.selects RX0 yX0_rankOf yX0_rankOf, Cond.code yX0_rankOf cX0_rankOf 4 (some .int), Cond.methodLink RX0 31 yX2_write, Cond.instanceMethod yX2_write, Cond.selects RX2 yX2_write yX2_write, Cond.code yX2_write cX2_write 5 none]
def wsX3_flush : List Cond := .code yX3_flush cX3_flush 2 (some .int) :: ((wsX3_flush_r1 ++ wsX3_flush_r2) ++ wsX30 ++ wsX00 ++ wsX20)
def wsX3_rowsInSegments : List Cond := .code yX3_rowsInSegments cX3_rowsInSegments 3 (some .int) :: ([.fieldLink RX3 26 "SegmentMerges" "segmentCount" "I", .fieldLink RX3 22 "SegmentMerges" "segments" "[LSegmentMerges$Segment;", .fieldLink RX3 90 "SegmentMerges$Segment" "size" "I"] ++ wsX30 ++ wsX20)
def wsX3_livingFrom : List Cond := .code yX3_livingFrom cX3_livingFrom 5 (some .int) :: ([.fieldLink RX3 22 "SegmentMerges" "segments" "[LSegmentMerges$Segment;", .fieldLink RX3 108 "SegmentMerges$Segment" "living" "I"] ++ wsX30 ++ wsX20)
def wsX3_count : List Cond := .code yX3_count cX3_count 2 (some .int) :: ([.fieldLink RX3 16 "SegmentMerges" "memory" "LSegmentMerges$Memory;", .fieldLink RX3 69 "SegmentMerges$Memory" "size" "I", .fieldLink RX3 26 "SegmentMerges" "segmentCount" "I", .fieldLink RX3 33 "SegmentMerges" "writtenRows" "I", .methodLink RX3 94 yX3_rowsInSegments, .instanceMethod yX3_rowsInSegments, .selects RX3 yX3_rowsInSegments yX3_rowsInSegments, .initialized RX3, .code yX3_rowsInSegments cX3_rowsInSegments 3 (some .int), .fieldLink RX3 22 "SegmentMerges" "segments" "[LSegmentMerges$Segment;", .fieldLink RX3 90 "SegmentMerges$Segment" "size" "I", .methodLink RX3 98 yX3_livingFrom, .instanceMethod yX3_livingFrom, .selects RX3 yX3_livingFrom yX3_livingFrom, .code yX3_livingFrom cX3_livingFrom 5 (some .int), .fieldLink RX3 108 "SegmentMerges$Segment" "living" "I"] ++ wsX30 ++ wsX00 ++ wsX20)
def wsX3_isPlace : List Cond := .code yX3_isPlace cX3_isPlace 2 (some .boolean) :: ([.fieldLink RX3 26 "SegmentMerges" "segmentCount" "I"] ++ wsX30)
def wsX3_segment : List Cond := .code yX3_segment cX3_segment 4 (some .int) :: ([.fieldLink RX3 22 "SegmentMerges" "segments" "[LSegmentMerges$Segment;", .fieldLink RX3 91 "SegmentMerges$Segment" "number" "I", .fieldLink RX3 105 "SegmentMerges$Segment" "tier" "I", .fieldLink RX3 90 "SegmentMerges$Segment" "size" "I", .fieldLink RX3 108 "SegmentMerges$Segment" "living" "I", .fieldLink RX3 39 "SegmentMerges" "current" "LSegmentMerges$Merge;", .methodLink RX3 102 yX3_isPlace, .instanceMethod yX3_isPlace, .selects RX3 yX3_isPlace yX3_isPlace, .initialized RX3, .code yX3_isPlace cX3_isPlace 2 (some .boolean), .fieldLink RX3 26 "SegmentMerges" "segmentCount" "I", .methodLink RX3 111 yX1_isOf, .instanceMethod yX1_isOf, .selects RX1 yX1_isOf yX1_isOf, .initialized RX1, .code yX1_isOf cX1_isOf 2 (some .boolean), .fieldLink RX1 21 "SegmentMerges$Merge" "place" "I", .fieldLink RX1 26 "SegmentMerges$Merge" "sources" "[LSegmentMerges$Segment;"] ++ wsX30 ++ wsX20 ++ wsX10)
def wsX3_row : List Cond := .code yX3_row cX3_row 5 (some .int) :: ([.fieldLink RX3 22 "SegmentMerges" "segments" "[LSegmentMerges$Segment;", .fieldLink RX3 119 "SegmentMerges$Segment" "keys" "[I", .fieldLink RX3 122 "SegmentMerges$Segment" "values" "[I", .fieldLink RX3 123 "SegmentMerges$Segment" "lives" "[Z", .methodLink RX3 102 yX3_isPlace, .instanceMethod yX3_isPlace, .selects RX3 yX3_isPlace yX3_isPlace, .initialized RX3, .code yX3_isPlace cX3_isPlace 2 (some .boolean), .fieldLink RX3 26 "SegmentMerges" "segmentCount" "I", .methodLink RX3 116 yX2_hasRow, .instanceMethod yX2_hasRow, .selects RX2 yX2_hasRow yX2_hasRow, .initialized RX2, .code yX2_hasRow cX2_hasRow 2 (some .boolean), .fieldLink RX2 19 "SegmentMerges$Segment" "size" "I"] ++ wsX30 ++ wsX20)
def wsX3_full : List Cond := .code yX3_full cX3_full 3 (some .int) :: ([.fieldLink RX3 36 "SegmentMerges" "fullSize" "I"] ++ wsX30)
def wsX3_isOfOneTier : List Cond := .code yX3_isOfOneTier cX3_isOfOneTier 4 (some .boolean) :: ([.fieldLink RX3 22 "SegmentMerges" "segments" "[LSegmentMerges$Segment;", .fieldLink RX3 105 "SegmentMerges$Segment" "tier" "I"] ++ wsX30 ++ wsX20)
def wsX3_due : List Cond := .code yX3_due cX3_due 3 (some .int) :: ([.fieldLink RX3 36 "SegmentMerges" "fullSize" "I", .fieldLink RX3 26 "SegmentMerges" "segmentCount" "I", .fieldLink RX3 22 "SegmentMerges" "segments" "[LSegmentMerges$Segment;", .fieldLink RX3 105 "SegmentMerges$Segment" "tier" "I", .methodLink RX3 126 yX3_isOfOneTier, .instanceMethod yX3_isOfOneTier, .selects RX3 yX3_isOfOneTier yX3_isOfOneTier, .initialized RX3, .code yX3_isOfOneTier cX3_isOfOneTier 4 (some .boolean)] ++ wsX30 ++ wsX20)
def wsX3_canBeMerged : List Cond := .code yX3_canBeMerged cX3_canBeMerged 1 (some .boolean) :: ([])
def wsX3_cheapest : List Cond := .code yX3_cheapest cX3_cheapest 6 (some .int) :: ([.fieldLink RX3 26 "SegmentMerges" "segmentCount" "I", .methodLink RX3 130 yX3_canBeMerged, .static yX3_canBeMerged, .initialized RX3, .code yX3_canBeMerged cX3_canBeMerged 1 (some .boolean), .methodLink RX3 98 yX3_livingFrom, .instanceMethod yX3_livingFrom, .selects RX3 yX3_livingFrom yX3_livingFrom, .code yX3_livingFrom cX3_livingFrom 5 (some .int), .fieldLink RX3 22 "SegmentMerges" "segments" "[LSegmentMerges$Segment;", .fieldLink RX3 108 "SegmentMerges$Segment" "living" "I"] ++ wsX30 ++ wsX20)
def wsX3_worst : List Cond := .code yX3_worst cX3_worst 3 (some .int) :: ([.fieldLink RX3 26 "SegmentMerges" "segmentCount" "I", .fieldLink RX3 22 "SegmentMerges" "segments" "[LSegmentMerges$Segment;", .methodLink RX3 133 yX2_isDeaderThan, .instanceMethod yX2_isDeaderThan, .selects RX2 yX2_isDeaderThan yX2_isDeaderThan, .initialized RX2, .code yX2_isDeaderThan cX2_isDeaderThan 2 (some .boolean), .fieldLink RX2 19 "SegmentMerges$Segment" "size" "I", .fieldLink RX2 7 "SegmentMerges$Segment" "living" "I"] ++ wsX30 ++ wsX20)
def wsX3_begin_r1 : List Cond := [Cond.fieldLink RX3 39 "SegmentMerges" "current" "LSegmentMerges$Merge;", Cond.classLink RX3 112 RX1, Cond.instantiable RX1 6, Cond.initialized RX1, Cond.fieldLink RX3 22 "SegmentMerges" "segments" "[LSegmentMerges$Segment;", Cond.fieldLink RX3 140 "SegmentMerges$Merge" "left" "I", Cond.methodLink RX3 102 yX3_isPlace, Cond.instanceMethod yX3_isPlace, Cond.selects RX3 yX3_isPlace yX3_isPlace, Cond.initialized RX3, Cond.code yX3_isPlace cX3_isPlace 2 (some .boolean), Cond.fieldLink RX3 26 "SegmentMerges" "segmentCount" "I", Cond.methodLink RX3 130 yX3_canBeMerged, Cond.static yX3_canBeMerged, Cond.code yX3_canBeMerged cX3_canBeMerged 1 (some .boolean), Cond.methodLink RX3 137 yX1_init, Cond.instanceMethod yX1_init, Cond.code yX1_init cX1_init 5 none, Cond.methodLink RX1 3 objectInit, Cond.instanceMethod objectInit, Cond.code objectInit ⟨#[0xb1]⟩ 1 none, Cond.fieldLink RX1 9 "SegmentMerges$Merge" "taken" "I", Cond.fieldLink RX1 15 "SegmentMerges$Merge" "written" "I", Cond.fieldLink RX1 18 "SegmentMerges$Merge" "left" "I"]
def wsX3_begin_r2 : List Cond := [Cond.fieldLink RX1 21 "SegmentMerges$Merge" "place" "I", Cond.classLink RX1 24 RX2, Cond.fieldLink RX1 26 "SegmentMerges$Merge" "sources" "[LSegmentMerges$Segment;", Cond.arrayClass .int, Cond.fieldLink RX1 30 "SegmentMerges$Merge" "takenOf" "[I", Cond.fieldLink RX1 34 "SegmentMerges$Segment" "size" "I"]
def wsX3_begin : List Cond := .code yX3_begin cX3_begin 3 (some .int) :: ((wsX3_begin_r1 ++ wsX3_begin_r2) ++ wsX30 ++ wsX10 ++ wsX20)
def wsX3_closeGap : List Cond := .code yX3_closeGap cX3_closeGap 4 none :: ([.fieldLink RX3 26 "SegmentMerges" "segmentCount" "I", .fieldLink RX3 22 "SegmentMerges" "segments" "[LSegmentMerges$Segment;"] ++ wsX30)
def wsX3_endMerge_r1 : List Cond := [Cond.fieldLink RX3 153 "SegmentMerges$Merge" "written" "I", Cond.fieldLink RX3 22 "SegmentMerges" "segments" "[LSegmentMerges$Segment;", Cond.fieldLink RX3 156 "SegmentMerges$Merge" "place" "I", Cond.fieldLink RX3 30 "SegmentMerges" "nextNumber" "I", Cond.fieldLink RX3 185 "SegmentMerges$Merge" "sources" "[LSegmentMerges$Segment;", Cond.fieldLink RX3 33 "SegmentMerges" "writtenRows" "I", Cond.fieldLink RX3 43 "SegmentMerges" "ended" "LSegmentMerges$Merge;", Cond.fieldLink RX3 39 "SegmentMerges" "current" "LSegmentMerges$Merge;", Cond.methodLink RX3 184 yX1_asSegment, Cond.instanceMethod yX1_asSegment, Cond.selects RX1 yX1_asSegment yX1_asSegment, Cond.initialized RX1, Cond.code yX1_asSegment cX1_asSegment 6 (some (.object "SegmentMerges$Segment")), Cond.classLink RX1 24 RX2, Cond.instantiable RX2 8, Cond.initialized RX2, Cond.fieldLink RX1 15 "SegmentMerges$Merge" "written" "I", Cond.fieldLink RX1 26 "SegmentMerges$Merge" "sources" "[LSegmentMerges$Segment;", Cond.fieldLink RX1 34 "SegmentMerges$Segment" "size" "I", Cond.fieldLink RX1 48 "SegmentMerges$Segment" "wentTo" "[I", Cond.fieldLink RX1 51 "SegmentMerges$Segment" "keys" "[I", Cond.fieldLink RX1 60 "SegmentMerges$Segment" "values" "[I", Cond.fieldLink RX1 44 "SegmentMerges$Segment" "lives" "[Z", Cond.methodLink RX1 54 yX1_greatestTier]
def wsX3_endMerge_r2 : List Cond := [Cond.instanceMethod yX1_greatestTier, Cond.selects RX1 yX1_greatestTier yX1_greatestTier, Cond.code yX1_greatestTier cX1_greatestTier 3 (some .int), Cond.fieldLink RX1 67 "SegmentMerges$Segment" "tier" "I", Cond.methodLink RX1 70 Lib.Math.max.name, Cond.static Lib.Math.max.name, Cond.initialized "java/lang/Math", Cond.code Lib.Math.max.name Lib.Math.max.code 2 (some .int), Cond.methodLink RX1 57 yX2_init, Cond.instanceMethod yX2_init, Cond.code yX2_init cX2_init 4 none, Cond.methodLink RX2 1 objectInit, Cond.instanceMethod objectInit, Cond.code objectInit ⟨#[0xb1]⟩ 1 none, Cond.fieldLink RX2 7 "SegmentMerges$Segment" "living" "I", Cond.fieldLink RX2 13 "SegmentMerges$Segment" "number" "I", Cond.fieldLink RX2 16 "SegmentMerges$Segment" "tier" "I", Cond.fieldLink RX2 19 "SegmentMerges$Segment" "size" "I", Cond.arrayClass .int, Cond.fieldLink RX2 22 "SegmentMerges$Segment" "keys" "[I", Cond.fieldLink RX2 26 "SegmentMerges$Segment" "values" "[I", Cond.arrayClass .boolean, Cond.fieldLink RX2 29 "SegmentMerges$Segment" "lives" "[Z", Cond.fieldLink RX2 33 "SegmentMerges$Segment" "wentTo" "[I"]
def wsX3_endMerge_r3 : List Cond := [Cond.methodLink RX1 63 yX2_write, Cond.instanceMethod yX2_write, Cond.selects RX2 yX2_write yX2_write, Cond.code yX2_write cX2_write 5 none, Cond.methodLink RX3 188 yX3_closeGap, Cond.instanceMethod yX3_closeGap, Cond.selects RX3 yX3_closeGap yX3_closeGap, Cond.initialized RX3, Cond.code yX3_closeGap cX3_closeGap 4 none, Cond.fieldLink RX3 26 "SegmentMerges" "segmentCount" "I"]
def wsX3_endMerge : List Cond := .code yX3_endMerge cX3_endMerge 3 none :: ((wsX3_endMerge_r1 ++ (wsX3_endMerge_r2 ++ wsX3_endMerge_r3)) ++ wsX10 ++ wsX30 ++ wsX20)
def wsX3_step_r1 : List Cond := [Cond.fieldLink RX3 39 "SegmentMerges" "current" "LSegmentMerges$Merge;", Cond.fieldLink RX3 140 "SegmentMerges$Merge" "left" "I", Cond.methodLink RX3 143 yX1_takeOne, Cond.instanceMethod yX1_takeOne, Cond.selects RX1 yX1_takeOne yX1_takeOne, Cond.initialized RX1, Cond.code yX1_takeOne cX1_takeOne 4 none, Cond.fieldLink RX1 26 "SegmentMerges$Merge" "sources" "[LSegmentMerges$Segment;", Cond.fieldLink RX1 30 "SegmentMerges$Merge" "takenOf" "[I", Cond.fieldLink RX1 44 "SegmentMerges$Segment" "lives" "[Z", Cond.fieldLink RX1 48 "SegmentMerges$Segment" "wentTo" "[I", Cond.fieldLink RX1 15 "SegmentMerges$Merge" "written" "I", Cond.fieldLink RX1 9 "SegmentMerges$Merge" "taken" "I", Cond.fieldLink RX1 18 "SegmentMerges$Merge" "left" "I", Cond.methodLink RX1 40 yX1_sourceOfLeastKey, Cond.instanceMethod yX1_sourceOfLeastKey, Cond.selects RX1 yX1_sourceOfLeastKey yX1_sourceOfLeastKey, Cond.code yX1_sourceOfLeastKey cX1_sourceOfLeastKey 4 (some .int), Cond.fieldLink RX1 34 "SegmentMerges$Segment" "size" "I", Cond.fieldLink RX1 51 "SegmentMerges$Segment" "keys" "[I", Cond.methodLink RX3 146 yX3_endMerge, Cond.instanceMethod yX3_endMerge, Cond.selects RX3 yX3_endMerge yX3_endMerge, Cond.initialized RX3]
def wsX3_step_r2 : List Cond := [Cond.code yX3_endMerge cX3_endMerge 3 none, Cond.fieldLink RX3 153 "SegmentMerges$Merge" "written" "I", Cond.fieldLink RX3 22 "SegmentMerges" "segments" "[LSegmentMerges$Segment;", Cond.fieldLink RX3 156 "SegmentMerges$Merge" "place" "I", Cond.fieldLink RX3 30 "SegmentMerges" "nextNumber" "I", Cond.fieldLink RX3 185 "SegmentMerges$Merge" "sources" "[LSegmentMerges$Segment;", Cond.fieldLink RX3 33 "SegmentMerges" "writtenRows" "I", Cond.fieldLink RX3 43 "SegmentMerges" "ended" "LSegmentMerges$Merge;", Cond.methodLink RX3 184 yX1_asSegment, Cond.instanceMethod yX1_asSegment, Cond.selects RX1 yX1_asSegment yX1_asSegment, Cond.code yX1_asSegment cX1_asSegment 6 (some (.object "SegmentMerges$Segment")), Cond.classLink RX1 24 RX2, Cond.instantiable RX2 8, Cond.initialized RX2, Cond.fieldLink RX1 60 "SegmentMerges$Segment" "values" "[I", Cond.methodLink RX1 54 yX1_greatestTier, Cond.instanceMethod yX1_greatestTier, Cond.selects RX1 yX1_greatestTier yX1_greatestTier, Cond.code yX1_greatestTier cX1_greatestTier 3 (some .int), Cond.fieldLink RX1 67 "SegmentMerges$Segment" "tier" "I", Cond.methodLink RX1 70 Lib.Math.max.name, Cond.static Lib.Math.max.name, Cond.initialized "java/lang/Math"]
def wsX3_step_r3 : List Cond := [Cond.code Lib.Math.max.name Lib.Math.max.code 2 (some .int), Cond.methodLink RX1 57 yX2_init, Cond.instanceMethod yX2_init, Cond.code yX2_init cX2_init 4 none, Cond.methodLink RX2 1 objectInit, Cond.instanceMethod objectInit, Cond.code objectInit ⟨#[0xb1]⟩ 1 none, Cond.fieldLink RX2 7 "SegmentMerges$Segment" "living" "I", Cond.fieldLink RX2 13 "SegmentMerges$Segment" "number" "I", Cond.fieldLink RX2 16 "SegmentMerges$Segment" "tier" "I", Cond.fieldLink RX2 19 "SegmentMerges$Segment" "size" "I", Cond.arrayClass .int, Cond.fieldLink RX2 22 "SegmentMerges$Segment" "keys" "[I", Cond.fieldLink RX2 26 "SegmentMerges$Segment" "values" "[I", Cond.arrayClass .boolean, Cond.fieldLink RX2 29 "SegmentMerges$Segment" "lives" "[Z", Cond.fieldLink RX2 33 "SegmentMerges$Segment" "wentTo" "[I", Cond.methodLink RX1 63 yX2_write, Cond.instanceMethod yX2_write, Cond.selects RX2 yX2_write yX2_write, Cond.code yX2_write cX2_write 5 none, Cond.methodLink RX3 188 yX3_closeGap, Cond.instanceMethod yX3_closeGap, Cond.selects RX3 yX3_closeGap yX3_closeGap]
def wsX3_step_r4 : List Cond := [Cond.code yX3_closeGap cX3_closeGap 4 none, Cond.fieldLink RX3 26 "SegmentMerges" "segmentCount" "I"]
def wsX3_step : List Cond := .code yX3_step cX3_step 3 (some .int) :: ((wsX3_step_r1 ++ (wsX3_step_r2 ++ (wsX3_step_r3 ++ wsX3_step_r4))) ++ wsX30 ++ wsX10 ++ wsX20)
def wsX3_stop : List Cond := .code yX3_stop cX3_stop 2 (some .int) :: ([.fieldLink RX3 39 "SegmentMerges" "current" "LSegmentMerges$Merge;", .fieldLink RX3 150 "SegmentMerges$Merge" "taken" "I", .fieldLink RX3 33 "SegmentMerges" "writtenRows" "I", .fieldLink RX3 153 "SegmentMerges$Merge" "written" "I"] ++ wsX30 ++ wsX10)
def wsX3_merging : List Cond := .code yX3_merging cX3_merging 2 (some .int) :: ([.fieldLink RX3 39 "SegmentMerges" "current" "LSegmentMerges$Merge;", .fieldLink RX3 150 "SegmentMerges$Merge" "taken" "I", .fieldLink RX3 153 "SegmentMerges$Merge" "written" "I", .fieldLink RX3 140 "SegmentMerges$Merge" "left" "I", .fieldLink RX3 156 "SegmentMerges$Merge" "place" "I"] ++ wsX30 ++ wsX10)
def wsX3_moved : List Cond := .code yX3_moved cX3_moved 4 (some .int) :: ([.fieldLink RX3 43 "SegmentMerges" "ended" "LSegmentMerges$Merge;", .fieldLink RX3 162 "SegmentMerges$Segment" "wentTo" "[I", .methodLink RX3 159 yX1_sourceOf, .instanceMethod yX1_sourceOf, .selects RX1 yX1_sourceOf yX1_sourceOf, .initialized RX1, .code yX1_sourceOf cX1_sourceOf 3 (some (.object "SegmentMerges$Segment")), .fieldLink RX1 26 "SegmentMerges$Merge" "sources" "[LSegmentMerges$Segment;", .fieldLink RX1 37 "SegmentMerges$Segment" "number" "I", .methodLink RX3 116 yX2_hasRow, .instanceMethod yX2_hasRow, .selects RX2 yX2_hasRow yX2_hasRow, .initialized RX2, .code yX2_hasRow cX2_hasRow 2 (some .boolean), .fieldLink RX2 19 "SegmentMerges$Segment" "size" "I"] ++ wsX30 ++ wsX20 ++ wsX10)
def wsX3_view : List Cond := .code yX3_view cX3_view 2 (some .int) :: ([.fieldLink RX3 51 "SegmentMerges" "viewOpen" "[Z", .fieldLink RX3 9 "SegmentMerges" "valueOf" "[I", .fieldLink RX3 48 "SegmentMerges" "viewed" "[[I", .methodLink RX3 165 arraycopyName, .native arraycopyName, .static arraycopyName, .initialized "java/lang/System"] ++ wsX30)
def wsX3_isOpenView : List Cond := .code yX3_isOpenView cX3_isOpenView 2 (some .boolean) :: ([.fieldLink RX3 51 "SegmentMerges" "viewOpen" "[Z"] ++ wsX30)
def wsX3_seen : List Cond := .code yX3_seen cX3_seen 4 (some .int) :: ([.fieldLink RX3 48 "SegmentMerges" "viewed" "[[I", .methodLink RX3 171 yX3_isOpenView, .instanceMethod yX3_isOpenView, .selects RX3 yX3_isOpenView yX3_isOpenView, .initialized RX3, .code yX3_isOpenView cX3_isOpenView 2 (some .boolean), .fieldLink RX3 51 "SegmentMerges" "viewOpen" "[Z", .methodLink RX3 61 yX3_isKey, .static yX3_isKey, .code yX3_isKey cX3_isKey 1 (some .boolean)] ++ wsX30)
def wsX3_shut : List Cond := .code yX3_shut cX3_shut 4 (some .int) :: ([.fieldLink RX3 48 "SegmentMerges" "viewed" "[[I", .fieldLink RX3 9 "SegmentMerges" "valueOf" "[I", .fieldLink RX3 51 "SegmentMerges" "viewOpen" "[Z", .methodLink RX3 171 yX3_isOpenView, .instanceMethod yX3_isOpenView, .selects RX3 yX3_isOpenView yX3_isOpenView, .initialized RX3, .code yX3_isOpenView cX3_isOpenView 2 (some .boolean)] ++ wsX30)
def wsX3_share : List Cond := .code yX3_share cX3_share 2 (some .int) :: ([.classLink RX3 174 "java/lang/ArithmeticException", .initialized "java/lang/ArithmeticException", .fieldLink RX3 26 "SegmentMerges" "segmentCount" "I", .methodLink RX3 94 yX3_rowsInSegments, .instanceMethod yX3_rowsInSegments, .selects RX3 yX3_rowsInSegments yX3_rowsInSegments, .initialized RX3, .code yX3_rowsInSegments cX3_rowsInSegments 3 (some .int), .fieldLink RX3 22 "SegmentMerges" "segments" "[LSegmentMerges$Segment;", .fieldLink RX3 90 "SegmentMerges$Segment" "size" "I", .methodLink RX3 98 yX3_livingFrom, .instanceMethod yX3_livingFrom, .selects RX3 yX3_livingFrom yX3_livingFrom, .code yX3_livingFrom cX3_livingFrom 5 (some .int), .fieldLink RX3 108 "SegmentMerges$Segment" "living" "I"] ++ wsX30 ++ wsX20 ++ (vx_atS RX3 178 "java/lang/ArithmeticException" ["java/lang/RuntimeException", "java/lang/Exception"]).filter goodWord)
def wsX4_init_r1 : List Cond := [Cond.methodLink RX4 1 objectInit, Cond.instanceMethod objectInit, Cond.code objectInit ⟨#[0xb1]⟩ 1 none, Cond.arrayClass .int, Cond.fieldLink RX4 7 "SegmentMergesModel" "value" "[I", Cond.fieldLink RX4 13 "SegmentMergesModel" "turn" "[I", Cond.fieldLink RX4 16 "SegmentMergesModel" "inSlot" "[I", Cond.fieldLink RX4 19 "SegmentMergesModel" "inRow" "[I", Cond.fieldLink RX4 22 "SegmentMergesModel" "memory" "[I", Cond.fieldLink RX4 25 "SegmentMergesModel" "order" "[I", Cond.arrayClass .boolean, Cond.fieldLink RX4 28 "SegmentMergesModel" "isUsed" "[Z", Cond.fieldLink RX4 32 "SegmentMergesModel" "number" "[I", Cond.fieldLink RX4 35 "SegmentMergesModel" "tier" "[I", Cond.fieldLink RX4 38 "SegmentMergesModel" "rows" "[I", Cond.fieldLink RX4 41 "SegmentMergesModel" "rowKey" "[I", Cond.fieldLink RX4 44 "SegmentMergesModel" "rowValue" "[I", Cond.fieldLink RX4 47 "SegmentMergesModel" "lives" "[Z", Cond.fieldLink RX4 50 "SegmentMergesModel" "full" "I", Cond.fieldLink RX4 54 "SegmentMergesModel" "at" "[I", Cond.fieldLink RX4 57 "SegmentMergesModel" "newKey" "[I", Cond.fieldLink RX4 60 "SegmentMergesModel" "newValue" "[I", Cond.fieldLink RX4 63 "SegmentMergesModel" "newTurn" "[I", Cond.fieldLink RX4 66 "SegmentMergesModel" "goes" "[I"]
def wsX4_init_r2 : List Cond := [Cond.fieldLink RX4 69 "SegmentMergesModel" "movedNumber" "[I", Cond.fieldLink RX4 72 "SegmentMergesModel" "movedRows" "[I", Cond.fieldLink RX4 75 "SegmentMergesModel" "movedTo" "[I", Cond.fieldLink RX4 78 "SegmentMergesModel" "isView" "[Z", Cond.fieldLink RX4 81 "SegmentMergesModel" "viewed" "[I"]
def wsX4_init : List Cond := .code yX4_init cX4_init 2 none :: ((wsX4_init_r1 ++ wsX4_init_r2) ++ wsX40)
def wsX4_thrown : List Cond := .code yX4_thrown cX4_thrown 1 (some .int) :: ([.fieldLink RX4 84 "SegmentMergesModel" "thrown" "I"] ++ wsX40)
def wsX4_in : List Cond := .code yX4_in cX4_in 3 (some .boolean) :: ([])
def wsX4_memoryAt : List Cond := .code yX4_memoryAt cX4_memoryAt 4 (some .int) :: ([.fieldLink RX4 87 "SegmentMergesModel" "remembered" "I", .fieldLink RX4 22 "SegmentMergesModel" "memory" "[I"] ++ wsX40)
def wsX4_die : List Cond := .code yX4_die cX4_die 2 none :: ([.fieldLink RX4 16 "SegmentMergesModel" "inSlot" "[I", .fieldLink RX4 47 "SegmentMergesModel" "lives" "[Z", .fieldLink RX4 19 "SegmentMergesModel" "inRow" "[I"] ++ wsX40)
def wsX4_put : List Cond := .code yX4_put cX4_put 3 (some .int) :: ([.fieldLink RX4 84 "SegmentMergesModel" "thrown" "I", .fieldLink RX4 87 "SegmentMergesModel" "remembered" "I", .fieldLink RX4 22 "SegmentMergesModel" "memory" "[I", .fieldLink RX4 7 "SegmentMergesModel" "value" "[I", .fieldLink RX4 13 "SegmentMergesModel" "turn" "[I", .methodLink RX4 90 yX4_in, .static yX4_in, .initialized RX4, .code yX4_in cX4_in 3 (some .boolean), .methodLink RX4 94 yX4_memoryAt, .instanceMethod yX4_memoryAt, .selects RX4 yX4_memoryAt yX4_memoryAt, .code yX4_memoryAt cX4_memoryAt 4 (some .int), .methodLink RX4 98 yX4_die, .instanceMethod yX4_die, .selects RX4 yX4_die yX4_die, .code yX4_die cX4_die 2 none, .fieldLink RX4 16 "SegmentMergesModel" "inSlot" "[I", .fieldLink RX4 47 "SegmentMergesModel" "lives" "[Z", .fieldLink RX4 19 "SegmentMergesModel" "inRow" "[I"] ++ wsX40)
def wsX4_drop : List Cond := .code yX4_drop cX4_drop 4 (some .int) :: ([.fieldLink RX4 84 "SegmentMergesModel" "thrown" "I", .fieldLink RX4 7 "SegmentMergesModel" "value" "[I", .fieldLink RX4 87 "SegmentMergesModel" "remembered" "I", .fieldLink RX4 22 "SegmentMergesModel" "memory" "[I", .fieldLink RX4 13 "SegmentMergesModel" "turn" "[I", .methodLink RX4 90 yX4_in, .static yX4_in, .initialized RX4, .code yX4_in cX4_in 3 (some .boolean), .methodLink RX4 94 yX4_memoryAt, .instanceMethod yX4_memoryAt, .selects RX4 yX4_memoryAt yX4_memoryAt, .code yX4_memoryAt cX4_memoryAt 4 (some .int), .methodLink RX4 98 yX4_die, .instanceMethod yX4_die, .selects RX4 yX4_die yX4_die, .code yX4_die cX4_die 2 none, .fieldLink RX4 16 "SegmentMergesModel" "inSlot" "[I", .fieldLink RX4 47 "SegmentMergesModel" "lives" "[Z", .fieldLink RX4 19 "SegmentMergesModel" "inRow" "[I"] ++ wsX40)
def wsX4_get : List Cond := .code yX4_get cX4_get 2 (some .int) :: ([.fieldLink RX4 84 "SegmentMergesModel" "thrown" "I", .fieldLink RX4 7 "SegmentMergesModel" "value" "[I", .methodLink RX4 90 yX4_in, .static yX4_in, .initialized RX4, .code yX4_in cX4_in 3 (some .boolean)] ++ wsX40)
def wsX4_next : List Cond := .code yX4_next cX4_next 3 (some .int) :: ([.fieldLink RX4 84 "SegmentMergesModel" "thrown" "I", .fieldLink RX4 7 "SegmentMergesModel" "value" "[I", .methodLink RX4 90 yX4_in, .static yX4_in, .initialized RX4, .code yX4_in cX4_in 3 (some .boolean)] ++ wsX40)
def wsX4_freeSlot : List Cond := .code yX4_freeSlot cX4_freeSlot 2 (some .int) :: ([.fieldLink RX4 28 "SegmentMergesModel" "isUsed" "[Z", .fieldLink RX4 38 "SegmentMergesModel" "rows" "[I"] ++ wsX40)
def wsX4_lay : List Cond := .code yX4_lay cX4_lay 6 none :: ([.fieldLink RX4 38 "SegmentMergesModel" "rows" "[I", .fieldLink RX4 41 "SegmentMergesModel" "rowKey" "[I", .fieldLink RX4 44 "SegmentMergesModel" "rowValue" "[I", .fieldLink RX4 47 "SegmentMergesModel" "lives" "[Z", .fieldLink RX4 16 "SegmentMergesModel" "inSlot" "[I", .fieldLink RX4 19 "SegmentMergesModel" "inRow" "[I"] ++ wsX40)
def wsX4_flush_r1 : List Cond := [Cond.fieldLink RX4 84 "SegmentMergesModel" "thrown" "I", Cond.fieldLink RX4 87 "SegmentMergesModel" "remembered" "I", Cond.fieldLink RX4 102 "SegmentMergesModel" "segments" "I", Cond.fieldLink RX4 35 "SegmentMergesModel" "tier" "[I", Cond.fieldLink RX4 32 "SegmentMergesModel" "number" "[I", Cond.fieldLink RX4 109 "SegmentMergesModel" "numbers" "I", Cond.fieldLink RX4 7 "SegmentMergesModel" "value" "[I", Cond.fieldLink RX4 116 "SegmentMergesModel" "written" "I", Cond.fieldLink RX4 25 "SegmentMergesModel" "order" "[I", Cond.methodLink RX4 105 yX4_freeSlot, Cond.instanceMethod yX4_freeSlot, Cond.selects RX4 yX4_freeSlot yX4_freeSlot, Cond.initialized RX4, Cond.code yX4_freeSlot cX4_freeSlot 2 (some .int), Cond.fieldLink RX4 28 "SegmentMergesModel" "isUsed" "[Z", Cond.fieldLink RX4 38 "SegmentMergesModel" "rows" "[I", Cond.methodLink RX4 94 yX4_memoryAt, Cond.instanceMethod yX4_memoryAt, Cond.selects RX4 yX4_memoryAt yX4_memoryAt, Cond.code yX4_memoryAt cX4_memoryAt 4 (some .int), Cond.fieldLink RX4 22 "SegmentMergesModel" "memory" "[I", Cond.methodLink RX4 112 yX4_lay, Cond.instanceMethod yX4_lay, Cond.selects RX4 yX4_lay yX4_lay]
def wsX4_flush_r2 : List Cond := [Cond.code yX4_lay cX4_lay 6 none, Cond.fieldLink RX4 41 "SegmentMergesModel" "rowKey" "[I", Cond.fieldLink RX4 44 "SegmentMergesModel" "rowValue" "[I", Cond.fieldLink RX4 47 "SegmentMergesModel" "lives" "[Z", Cond.fieldLink RX4 16 "SegmentMergesModel" "inSlot" "[I", Cond.fieldLink RX4 19 "SegmentMergesModel" "inRow" "[I"]
def wsX4_flush : List Cond := .code yX4_flush cX4_flush 3 (some .int) :: ((wsX4_flush_r1 ++ wsX4_flush_r2) ++ wsX40)
def wsX4_livingOf : List Cond := .code yX4_livingOf cX4_livingOf 4 (some .int) :: ([.fieldLink RX4 38 "SegmentMergesModel" "rows" "[I", .fieldLink RX4 47 "SegmentMergesModel" "lives" "[Z"] ++ wsX40)
def wsX4_all : List Cond := .code yX4_all cX4_all 4 (some .int) :: ([.fieldLink RX4 102 "SegmentMergesModel" "segments" "I", .fieldLink RX4 25 "SegmentMergesModel" "order" "[I", .fieldLink RX4 38 "SegmentMergesModel" "rows" "[I", .methodLink RX4 119 yX4_livingOf, .instanceMethod yX4_livingOf, .selects RX4 yX4_livingOf yX4_livingOf, .initialized RX4, .code yX4_livingOf cX4_livingOf 4 (some .int), .fieldLink RX4 47 "SegmentMergesModel" "lives" "[Z"] ++ wsX40)
def wsX4_count : List Cond := .code yX4_count cX4_count 4 (some .int) :: ([.fieldLink RX4 84 "SegmentMergesModel" "thrown" "I", .fieldLink RX4 7 "SegmentMergesModel" "value" "[I", .fieldLink RX4 87 "SegmentMergesModel" "remembered" "I", .fieldLink RX4 102 "SegmentMergesModel" "segments" "I", .fieldLink RX4 116 "SegmentMergesModel" "written" "I", .methodLink RX4 122 yX4_all, .instanceMethod yX4_all, .selects RX4 yX4_all yX4_all, .initialized RX4, .code yX4_all cX4_all 4 (some .int), .fieldLink RX4 25 "SegmentMergesModel" "order" "[I", .fieldLink RX4 38 "SegmentMergesModel" "rows" "[I", .methodLink RX4 119 yX4_livingOf, .instanceMethod yX4_livingOf, .selects RX4 yX4_livingOf yX4_livingOf, .code yX4_livingOf cX4_livingOf 4 (some .int), .fieldLink RX4 47 "SegmentMergesModel" "lives" "[Z"] ++ wsX40)
def wsX4_isPlace : List Cond := .code yX4_isPlace cX4_isPlace 2 (some .boolean) :: ([.fieldLink RX4 102 "SegmentMergesModel" "segments" "I", .methodLink RX4 90 yX4_in, .static yX4_in, .initialized RX4, .code yX4_in cX4_in 3 (some .boolean)] ++ wsX40)
def wsX4_segment : List Cond := .code yX4_segment cX4_segment 4 (some .int) :: ([.fieldLink RX4 84 "SegmentMergesModel" "thrown" "I", .fieldLink RX4 25 "SegmentMergesModel" "order" "[I", .fieldLink RX4 32 "SegmentMergesModel" "number" "[I", .fieldLink RX4 35 "SegmentMergesModel" "tier" "[I", .fieldLink RX4 38 "SegmentMergesModel" "rows" "[I", .fieldLink RX4 130 "SegmentMergesModel" "merged" "I", .fieldLink RX4 133 "SegmentMergesModel" "mergePlace" "I", .methodLink RX4 126 yX4_isPlace, .instanceMethod yX4_isPlace, .selects RX4 yX4_isPlace yX4_isPlace, .initialized RX4, .code yX4_isPlace cX4_isPlace 2 (some .boolean), .fieldLink RX4 102 "SegmentMergesModel" "segments" "I", .methodLink RX4 90 yX4_in, .static yX4_in, .code yX4_in cX4_in 3 (some .boolean), .methodLink RX4 119 yX4_livingOf, .instanceMethod yX4_livingOf, .selects RX4 yX4_livingOf yX4_livingOf, .code yX4_livingOf cX4_livingOf 4 (some .int), .fieldLink RX4 47 "SegmentMergesModel" "lives" "[Z"] ++ wsX40)
def wsX4_row : List Cond := .code yX4_row cX4_row 5 (some .int) :: ([.fieldLink RX4 84 "SegmentMergesModel" "thrown" "I", .fieldLink RX4 38 "SegmentMergesModel" "rows" "[I", .fieldLink RX4 25 "SegmentMergesModel" "order" "[I", .fieldLink RX4 41 "SegmentMergesModel" "rowKey" "[I", .fieldLink RX4 44 "SegmentMergesModel" "rowValue" "[I", .fieldLink RX4 47 "SegmentMergesModel" "lives" "[Z", .methodLink RX4 126 yX4_isPlace, .instanceMethod yX4_isPlace, .selects RX4 yX4_isPlace yX4_isPlace, .initialized RX4, .code yX4_isPlace cX4_isPlace 2 (some .boolean), .fieldLink RX4 102 "SegmentMergesModel" "segments" "I", .methodLink RX4 90 yX4_in, .static yX4_in, .code yX4_in cX4_in 3 (some .boolean)] ++ wsX40)
def wsX4_full : List Cond := .code yX4_full cX4_full 3 (some .int) :: ([.fieldLink RX4 84 "SegmentMergesModel" "thrown" "I", .fieldLink RX4 50 "SegmentMergesModel" "full" "I", .methodLink RX4 90 yX4_in, .static yX4_in, .initialized RX4, .code yX4_in cX4_in 3 (some .boolean)] ++ wsX40)
def wsX4_due : List Cond := .code yX4_due cX4_due 5 (some .int) :: ([.fieldLink RX4 84 "SegmentMergesModel" "thrown" "I", .fieldLink RX4 50 "SegmentMergesModel" "full" "I", .fieldLink RX4 102 "SegmentMergesModel" "segments" "I", .fieldLink RX4 35 "SegmentMergesModel" "tier" "[I", .fieldLink RX4 25 "SegmentMergesModel" "order" "[I"] ++ wsX40)
def wsX4_cheapest : List Cond := .code yX4_cheapest cX4_cheapest 7 (some .int) :: ([.fieldLink RX4 84 "SegmentMergesModel" "thrown" "I", .fieldLink RX4 102 "SegmentMergesModel" "segments" "I", .fieldLink RX4 25 "SegmentMergesModel" "order" "[I", .methodLink RX4 90 yX4_in, .static yX4_in, .initialized RX4, .code yX4_in cX4_in 3 (some .boolean), .methodLink RX4 119 yX4_livingOf, .instanceMethod yX4_livingOf, .selects RX4 yX4_livingOf yX4_livingOf, .code yX4_livingOf cX4_livingOf 4 (some .int), .fieldLink RX4 38 "SegmentMergesModel" "rows" "[I", .fieldLink RX4 47 "SegmentMergesModel" "lives" "[Z"] ++ wsX40)
def wsX4_worst : List Cond := .code yX4_worst cX4_worst 7 (some .int) :: ([.fieldLink RX4 84 "SegmentMergesModel" "thrown" "I", .fieldLink RX4 102 "SegmentMergesModel" "segments" "I", .fieldLink RX4 25 "SegmentMergesModel" "order" "[I", .fieldLink RX4 38 "SegmentMergesModel" "rows" "[I", .methodLink RX4 119 yX4_livingOf, .instanceMethod yX4_livingOf, .selects RX4 yX4_livingOf yX4_livingOf, .initialized RX4, .code yX4_livingOf cX4_livingOf 4 (some .int), .fieldLink RX4 47 "SegmentMergesModel" "lives" "[Z"] ++ wsX40)
def wsX4_slotOf : List Cond := .code yX4_slotOf cX4_slotOf 2 (some .int) :: ([.fieldLink RX4 25 "SegmentMergesModel" "order" "[I", .fieldLink RX4 133 "SegmentMergesModel" "mergePlace" "I"] ++ wsX40)
def wsX4_left : List Cond := .code yX4_left cX4_left 3 (some .int) :: ([.fieldLink RX4 130 "SegmentMergesModel" "merged" "I", .fieldLink RX4 38 "SegmentMergesModel" "rows" "[I", .fieldLink RX4 54 "SegmentMergesModel" "at" "[I", .methodLink RX4 145 yX4_slotOf, .instanceMethod yX4_slotOf, .selects RX4 yX4_slotOf yX4_slotOf, .initialized RX4, .code yX4_slotOf cX4_slotOf 2 (some .int), .fieldLink RX4 25 "SegmentMergesModel" "order" "[I", .fieldLink RX4 133 "SegmentMergesModel" "mergePlace" "I"] ++ wsX40)
def wsX4_begin_r1 : List Cond := [Cond.fieldLink RX4 84 "SegmentMergesModel" "thrown" "I", Cond.fieldLink RX4 102 "SegmentMergesModel" "segments" "I", Cond.fieldLink RX4 130 "SegmentMergesModel" "merged" "I", Cond.fieldLink RX4 133 "SegmentMergesModel" "mergePlace" "I", Cond.fieldLink RX4 136 "SegmentMergesModel" "taken" "I", Cond.fieldLink RX4 139 "SegmentMergesModel" "wrote" "I", Cond.fieldLink RX4 54 "SegmentMergesModel" "at" "[I", Cond.methodLink RX4 126 yX4_isPlace, Cond.instanceMethod yX4_isPlace, Cond.selects RX4 yX4_isPlace yX4_isPlace, Cond.initialized RX4, Cond.code yX4_isPlace cX4_isPlace 2 (some .boolean), Cond.methodLink RX4 90 yX4_in, Cond.static yX4_in, Cond.code yX4_in cX4_in 3 (some .boolean), Cond.methodLink RX4 142 yX4_left, Cond.instanceMethod yX4_left, Cond.selects RX4 yX4_left yX4_left, Cond.code yX4_left cX4_left 3 (some .int), Cond.fieldLink RX4 38 "SegmentMergesModel" "rows" "[I", Cond.methodLink RX4 145 yX4_slotOf, Cond.instanceMethod yX4_slotOf, Cond.selects RX4 yX4_slotOf yX4_slotOf, Cond.code yX4_slotOf cX4_slotOf 2 (some .int)]
def wsX4_begin_r2 : List Cond := [Cond.fieldLink RX4 25 "SegmentMergesModel" "order" "[I"]
def wsX4_begin : List Cond := .code yX4_begin cX4_begin 4 (some .int) :: ((wsX4_begin_r1 ++ wsX4_begin_r2) ++ wsX40)
def wsX4_keyAt : List Cond := .code yX4_keyAt cX4_keyAt 2 (some .int) :: ([.fieldLink RX4 41 "SegmentMergesModel" "rowKey" "[I", .fieldLink RX4 54 "SegmentMergesModel" "at" "[I", .methodLink RX4 145 yX4_slotOf, .instanceMethod yX4_slotOf, .selects RX4 yX4_slotOf yX4_slotOf, .initialized RX4, .code yX4_slotOf cX4_slotOf 2 (some .int), .fieldLink RX4 25 "SegmentMergesModel" "order" "[I", .fieldLink RX4 133 "SegmentMergesModel" "mergePlace" "I"] ++ wsX40)
def wsX4_takeOne : List Cond := .code yX4_takeOne cX4_takeOne 3 none :: ([.fieldLink RX4 130 "SegmentMergesModel" "merged" "I", .fieldLink RX4 54 "SegmentMergesModel" "at" "[I", .fieldLink RX4 38 "SegmentMergesModel" "rows" "[I", .fieldLink RX4 66 "SegmentMergesModel" "goes" "[I", .fieldLink RX4 47 "SegmentMergesModel" "lives" "[Z", .fieldLink RX4 139 "SegmentMergesModel" "wrote" "I", .fieldLink RX4 57 "SegmentMergesModel" "newKey" "[I", .fieldLink RX4 41 "SegmentMergesModel" "rowKey" "[I", .fieldLink RX4 60 "SegmentMergesModel" "newValue" "[I", .fieldLink RX4 44 "SegmentMergesModel" "rowValue" "[I", .fieldLink RX4 63 "SegmentMergesModel" "newTurn" "[I", .fieldLink RX4 13 "SegmentMergesModel" "turn" "[I", .fieldLink RX4 136 "SegmentMergesModel" "taken" "I", .methodLink RX4 145 yX4_slotOf, .instanceMethod yX4_slotOf, .selects RX4 yX4_slotOf yX4_slotOf, .initialized RX4, .code yX4_slotOf cX4_slotOf 2 (some .int), .fieldLink RX4 25 "SegmentMergesModel" "order" "[I", .fieldLink RX4 133 "SegmentMergesModel" "mergePlace" "I", .methodLink RX4 148 yX4_keyAt, .instanceMethod yX4_keyAt, .selects RX4 yX4_keyAt yX4_keyAt, .code yX4_keyAt cX4_keyAt 2 (some .int)] ++ wsX40)
def wsX4_end_r1 : List Cond := [Cond.fieldLink RX4 130 "SegmentMergesModel" "merged" "I", Cond.fieldLink RX4 157 "SegmentMergesModel" "movedMany" "I", Cond.fieldLink RX4 116 "SegmentMergesModel" "written" "I", Cond.fieldLink RX4 139 "SegmentMergesModel" "wrote" "I", Cond.fieldLink RX4 69 "SegmentMergesModel" "movedNumber" "[I", Cond.fieldLink RX4 32 "SegmentMergesModel" "number" "[I", Cond.fieldLink RX4 72 "SegmentMergesModel" "movedRows" "[I", Cond.fieldLink RX4 38 "SegmentMergesModel" "rows" "[I", Cond.fieldLink RX4 75 "SegmentMergesModel" "movedTo" "[I", Cond.fieldLink RX4 66 "SegmentMergesModel" "goes" "[I", Cond.fieldLink RX4 35 "SegmentMergesModel" "tier" "[I", Cond.fieldLink RX4 28 "SegmentMergesModel" "isUsed" "[Z", Cond.fieldLink RX4 133 "SegmentMergesModel" "mergePlace" "I", Cond.fieldLink RX4 25 "SegmentMergesModel" "order" "[I", Cond.fieldLink RX4 102 "SegmentMergesModel" "segments" "I", Cond.fieldLink RX4 109 "SegmentMergesModel" "numbers" "I", Cond.fieldLink RX4 57 "SegmentMergesModel" "newKey" "[I", Cond.fieldLink RX4 60 "SegmentMergesModel" "newValue" "[I", Cond.fieldLink RX4 13 "SegmentMergesModel" "turn" "[I", Cond.fieldLink RX4 63 "SegmentMergesModel" "newTurn" "[I", Cond.methodLink RX4 145 yX4_slotOf, Cond.instanceMethod yX4_slotOf, Cond.selects RX4 yX4_slotOf yX4_slotOf, Cond.initialized RX4]
def wsX4_end_r2 : List Cond := [Cond.code yX4_slotOf cX4_slotOf 2 (some .int), Cond.methodLink RX4 105 yX4_freeSlot, Cond.instanceMethod yX4_freeSlot, Cond.selects RX4 yX4_freeSlot yX4_freeSlot, Cond.code yX4_freeSlot cX4_freeSlot 2 (some .int), Cond.methodLink RX4 112 yX4_lay, Cond.instanceMethod yX4_lay, Cond.selects RX4 yX4_lay yX4_lay, Cond.code yX4_lay cX4_lay 6 none, Cond.fieldLink RX4 41 "SegmentMergesModel" "rowKey" "[I", Cond.fieldLink RX4 44 "SegmentMergesModel" "rowValue" "[I", Cond.fieldLink RX4 47 "SegmentMergesModel" "lives" "[Z", Cond.fieldLink RX4 16 "SegmentMergesModel" "inSlot" "[I", Cond.fieldLink RX4 19 "SegmentMergesModel" "inRow" "[I"]
def wsX4_end : List Cond := .code yX4_end cX4_end 7 none :: ((wsX4_end_r1 ++ wsX4_end_r2) ++ wsX40)
def wsX4_step_r1 : List Cond := [Cond.fieldLink RX4 84 "SegmentMergesModel" "thrown" "I", Cond.fieldLink RX4 130 "SegmentMergesModel" "merged" "I", Cond.methodLink RX4 90 yX4_in, Cond.static yX4_in, Cond.initialized RX4, Cond.code yX4_in cX4_in 3 (some .boolean), Cond.methodLink RX4 142 yX4_left, Cond.instanceMethod yX4_left, Cond.selects RX4 yX4_left yX4_left, Cond.code yX4_left cX4_left 3 (some .int), Cond.fieldLink RX4 38 "SegmentMergesModel" "rows" "[I", Cond.fieldLink RX4 54 "SegmentMergesModel" "at" "[I", Cond.methodLink RX4 145 yX4_slotOf, Cond.instanceMethod yX4_slotOf, Cond.selects RX4 yX4_slotOf yX4_slotOf, Cond.code yX4_slotOf cX4_slotOf 2 (some .int), Cond.fieldLink RX4 25 "SegmentMergesModel" "order" "[I", Cond.fieldLink RX4 133 "SegmentMergesModel" "mergePlace" "I", Cond.methodLink RX4 151 yX4_takeOne, Cond.instanceMethod yX4_takeOne, Cond.selects RX4 yX4_takeOne yX4_takeOne, Cond.code yX4_takeOne cX4_takeOne 3 none, Cond.fieldLink RX4 66 "SegmentMergesModel" "goes" "[I", Cond.fieldLink RX4 47 "SegmentMergesModel" "lives" "[Z"]
def wsX4_step_r2 : List Cond := [Cond.fieldLink RX4 139 "SegmentMergesModel" "wrote" "I", Cond.fieldLink RX4 57 "SegmentMergesModel" "newKey" "[I", Cond.fieldLink RX4 41 "SegmentMergesModel" "rowKey" "[I", Cond.fieldLink RX4 60 "SegmentMergesModel" "newValue" "[I", Cond.fieldLink RX4 44 "SegmentMergesModel" "rowValue" "[I", Cond.fieldLink RX4 63 "SegmentMergesModel" "newTurn" "[I", Cond.fieldLink RX4 13 "SegmentMergesModel" "turn" "[I", Cond.fieldLink RX4 136 "SegmentMergesModel" "taken" "I", Cond.methodLink RX4 148 yX4_keyAt, Cond.instanceMethod yX4_keyAt, Cond.selects RX4 yX4_keyAt yX4_keyAt, Cond.code yX4_keyAt cX4_keyAt 2 (some .int), Cond.methodLink RX4 154 yX4_end, Cond.instanceMethod yX4_end, Cond.selects RX4 yX4_end yX4_end, Cond.code yX4_end cX4_end 7 none, Cond.fieldLink RX4 157 "SegmentMergesModel" "movedMany" "I", Cond.fieldLink RX4 116 "SegmentMergesModel" "written" "I", Cond.fieldLink RX4 69 "SegmentMergesModel" "movedNumber" "[I", Cond.fieldLink RX4 32 "SegmentMergesModel" "number" "[I", Cond.fieldLink RX4 72 "SegmentMergesModel" "movedRows" "[I", Cond.fieldLink RX4 75 "SegmentMergesModel" "movedTo" "[I", Cond.fieldLink RX4 35 "SegmentMergesModel" "tier" "[I", Cond.fieldLink RX4 28 "SegmentMergesModel" "isUsed" "[Z"]
def wsX4_step_r3 : List Cond := [Cond.fieldLink RX4 102 "SegmentMergesModel" "segments" "I", Cond.fieldLink RX4 109 "SegmentMergesModel" "numbers" "I", Cond.methodLink RX4 105 yX4_freeSlot, Cond.instanceMethod yX4_freeSlot, Cond.selects RX4 yX4_freeSlot yX4_freeSlot, Cond.code yX4_freeSlot cX4_freeSlot 2 (some .int), Cond.methodLink RX4 112 yX4_lay, Cond.instanceMethod yX4_lay, Cond.selects RX4 yX4_lay yX4_lay, Cond.code yX4_lay cX4_lay 6 none, Cond.fieldLink RX4 16 "SegmentMergesModel" "inSlot" "[I", Cond.fieldLink RX4 19 "SegmentMergesModel" "inRow" "[I"]
def wsX4_step : List Cond := .code yX4_step cX4_step 3 (some .int) :: ((wsX4_step_r1 ++ (wsX4_step_r2 ++ wsX4_step_r3)) ++ wsX40)
def wsX4_stop : List Cond := .code yX4_stop cX4_stop 1 (some .int) :: ([.fieldLink RX4 84 "SegmentMergesModel" "thrown" "I", .fieldLink RX4 130 "SegmentMergesModel" "merged" "I", .fieldLink RX4 116 "SegmentMergesModel" "written" "I", .fieldLink RX4 139 "SegmentMergesModel" "wrote" "I", .fieldLink RX4 136 "SegmentMergesModel" "taken" "I"] ++ wsX40)
def wsX4_merging : List Cond := .code yX4_merging cX4_merging 2 (some .int) :: ([.fieldLink RX4 84 "SegmentMergesModel" "thrown" "I", .fieldLink RX4 130 "SegmentMergesModel" "merged" "I", .fieldLink RX4 136 "SegmentMergesModel" "taken" "I", .fieldLink RX4 139 "SegmentMergesModel" "wrote" "I", .fieldLink RX4 133 "SegmentMergesModel" "mergePlace" "I", .methodLink RX4 90 yX4_in, .static yX4_in, .initialized RX4, .code yX4_in cX4_in 3 (some .boolean), .methodLink RX4 142 yX4_left, .instanceMethod yX4_left, .selects RX4 yX4_left yX4_left, .code yX4_left cX4_left 3 (some .int), .fieldLink RX4 38 "SegmentMergesModel" "rows" "[I", .fieldLink RX4 54 "SegmentMergesModel" "at" "[I", .methodLink RX4 145 yX4_slotOf, .instanceMethod yX4_slotOf, .selects RX4 yX4_slotOf yX4_slotOf, .code yX4_slotOf cX4_slotOf 2 (some .int), .fieldLink RX4 25 "SegmentMergesModel" "order" "[I"] ++ wsX40)
def wsX4_moved : List Cond := .code yX4_moved cX4_moved 4 (some .int) :: ([.fieldLink RX4 84 "SegmentMergesModel" "thrown" "I", .fieldLink RX4 157 "SegmentMergesModel" "movedMany" "I", .fieldLink RX4 69 "SegmentMergesModel" "movedNumber" "[I", .fieldLink RX4 72 "SegmentMergesModel" "movedRows" "[I", .fieldLink RX4 75 "SegmentMergesModel" "movedTo" "[I", .methodLink RX4 90 yX4_in, .static yX4_in, .initialized RX4, .code yX4_in cX4_in 3 (some .boolean)] ++ wsX40)
def wsX4_view : List Cond := .code yX4_view cX4_view 3 (some .int) :: ([.fieldLink RX4 84 "SegmentMergesModel" "thrown" "I", .fieldLink RX4 78 "SegmentMergesModel" "isView" "[Z", .fieldLink RX4 81 "SegmentMergesModel" "viewed" "[I", .fieldLink RX4 7 "SegmentMergesModel" "value" "[I"] ++ wsX40)
def wsX4_isOpen : List Cond := .code yX4_isOpen cX4_isOpen 2 (some .boolean) :: ([.fieldLink RX4 78 "SegmentMergesModel" "isView" "[Z", .methodLink RX4 90 yX4_in, .static yX4_in, .initialized RX4, .code yX4_in cX4_in 3 (some .boolean)] ++ wsX40)
def wsX4_seen : List Cond := .code yX4_seen cX4_seen 3 (some .int) :: ([.fieldLink RX4 84 "SegmentMergesModel" "thrown" "I", .fieldLink RX4 81 "SegmentMergesModel" "viewed" "[I", .methodLink RX4 160 yX4_isOpen, .instanceMethod yX4_isOpen, .selects RX4 yX4_isOpen yX4_isOpen, .initialized RX4, .code yX4_isOpen cX4_isOpen 2 (some .boolean), .fieldLink RX4 78 "SegmentMergesModel" "isView" "[Z", .methodLink RX4 90 yX4_in, .static yX4_in, .code yX4_in cX4_in 3 (some .boolean)] ++ wsX40)
def wsX4_shut : List Cond := .code yX4_shut cX4_shut 4 (some .int) :: ([.fieldLink RX4 84 "SegmentMergesModel" "thrown" "I", .fieldLink RX4 78 "SegmentMergesModel" "isView" "[Z", .fieldLink RX4 81 "SegmentMergesModel" "viewed" "[I", .fieldLink RX4 7 "SegmentMergesModel" "value" "[I", .methodLink RX4 160 yX4_isOpen, .instanceMethod yX4_isOpen, .selects RX4 yX4_isOpen yX4_isOpen, .initialized RX4, .code yX4_isOpen cX4_isOpen 2 (some .boolean), .methodLink RX4 90 yX4_in, .static yX4_in, .code yX4_in cX4_in 3 (some .boolean)] ++ wsX40)
def wsX4_share : List Cond := .code yX4_share cX4_share 2 (some .int) :: ([.fieldLink RX4 84 "SegmentMergesModel" "thrown" "I", .methodLink RX4 122 yX4_all, .instanceMethod yX4_all, .selects RX4 yX4_all yX4_all, .initialized RX4, .code yX4_all cX4_all 4 (some .int), .fieldLink RX4 102 "SegmentMergesModel" "segments" "I", .fieldLink RX4 25 "SegmentMergesModel" "order" "[I", .fieldLink RX4 38 "SegmentMergesModel" "rows" "[I", .methodLink RX4 119 yX4_livingOf, .instanceMethod yX4_livingOf, .selects RX4 yX4_livingOf yX4_livingOf, .code yX4_livingOf cX4_livingOf 4 (some .int), .fieldLink RX4 47 "SegmentMergesModel" "lives" "[Z"] ++ wsX40)
def wsJ9_max_7cf53 : List Cond := .code yJ9_max_7cf53 cJ9_max_7cf53 2 (some .int) :: ([])
def wsL_share : List Cond := .codeWith yL_share cL_share 3 (some .int) [(0, 8, 11, 13)] :: ([.classLink RL 13 "java/lang/ArithmeticException", .methodLink RL 7 yX3_share, .instanceMethod yX3_share, .selects RX3 yX3_share yX3_share, .initialized RX3, .code yX3_share cX3_share 2 (some .int), .classLink RX3 174 "java/lang/ArithmeticException", .initialized "java/lang/ArithmeticException", .fieldLink RX3 26 "SegmentMerges" "segmentCount" "I", .methodLink RX3 94 yX3_rowsInSegments, .instanceMethod yX3_rowsInSegments, .selects RX3 yX3_rowsInSegments yX3_rowsInSegments, .code yX3_rowsInSegments cX3_rowsInSegments 3 (some .int), .fieldLink RX3 22 "SegmentMerges" "segments" "[LSegmentMerges$Segment;", .fieldLink RX3 90 "SegmentMerges$Segment" "size" "I", .methodLink RX3 98 yX3_livingFrom, .instanceMethod yX3_livingFrom, .selects RX3 yX3_livingFrom yX3_livingFrom, .code yX3_livingFrom cX3_livingFrom 5 (some .int), .fieldLink RX3 108 "SegmentMerges$Segment" "living" "I"] ++ wsX30 ++ wsX20 ++ (vx_atS RX3 178 "java/lang/ArithmeticException" ["java/lang/RuntimeException", "java/lang/Exception"]).filter goodWord)
def wsL_law0_r1 : List Cond := [Cond.classLink RL 8 RX3, Cond.instantiable RX3 11, Cond.initialized RX3, Cond.classLink RL 16 RX4, Cond.instantiable RX4 34, Cond.initialized RX4, Cond.arrayClass .long, Cond.methodLink RL 15 yX3_init, Cond.instanceMethod yX3_init, Cond.code yX3_init cX3_init 1 none, Cond.methodLink RX3 1 objectInit, Cond.instanceMethod objectInit, Cond.code objectInit ⟨#[0xb1]⟩ 1 none, Cond.arrayClass .int, Cond.fieldLink RX3 9 "SegmentMerges" "valueOf" "[I", Cond.classLink RX3 13 RX0, Cond.instantiable RX0 3, Cond.initialized RX0, Cond.fieldLink RX3 16 "SegmentMerges" "memory" "LSegmentMerges$Memory;", Cond.classLink RX3 20 RX2, Cond.fieldLink RX3 22 "SegmentMerges" "segments" "[LSegmentMerges$Segment;", Cond.fieldLink RX3 26 "SegmentMerges" "segmentCount" "I", Cond.fieldLink RX3 30 "SegmentMerges" "nextNumber" "I", Cond.fieldLink RX3 33 "SegmentMerges" "writtenRows" "I"]
def wsL_law0_r2 : List Cond := [Cond.fieldLink RX3 36 "SegmentMerges" "fullSize" "I", Cond.fieldLink RX3 39 "SegmentMerges" "current" "LSegmentMerges$Merge;", Cond.fieldLink RX3 43 "SegmentMerges" "ended" "LSegmentMerges$Merge;", Cond.classLink RX3 46 "[[I", Cond.fieldLink RX3 48 "SegmentMerges" "viewed" "[[I", Cond.arrayClass .boolean, Cond.fieldLink RX3 51 "SegmentMerges" "viewOpen" "[Z", Cond.instanceMethod yX0_init, Cond.code yX0_init cX0_init 1 none, Cond.methodLink RX0 3 objectInit, Cond.fieldLink RX0 9 "SegmentMerges$Memory" "keys" "[I", Cond.fieldLink RX0 15 "SegmentMerges$Memory" "values" "[I", Cond.fieldLink RX0 18 "SegmentMerges$Memory" "size" "I", Cond.methodLink RX3 55 yJ7_fill_53178, Cond.static yJ7_fill_53178, Cond.initialized RJ7, Cond.code yJ7_fill_53178 cJ7_fill_53178 4 none, Cond.methodLink RL 18 yX4_init, Cond.instanceMethod yX4_init, Cond.code yX4_init cX4_init 2 none, Cond.methodLink RX4 1 objectInit, Cond.fieldLink RX4 7 "SegmentMergesModel" "value" "[I", Cond.fieldLink RX4 13 "SegmentMergesModel" "turn" "[I", Cond.fieldLink RX4 16 "SegmentMergesModel" "inSlot" "[I"]
def wsL_law0_r3 : List Cond := [Cond.fieldLink RX4 19 "SegmentMergesModel" "inRow" "[I", Cond.fieldLink RX4 22 "SegmentMergesModel" "memory" "[I", Cond.fieldLink RX4 25 "SegmentMergesModel" "order" "[I", Cond.fieldLink RX4 28 "SegmentMergesModel" "isUsed" "[Z", Cond.fieldLink RX4 32 "SegmentMergesModel" "number" "[I", Cond.fieldLink RX4 35 "SegmentMergesModel" "tier" "[I", Cond.fieldLink RX4 38 "SegmentMergesModel" "rows" "[I", Cond.fieldLink RX4 41 "SegmentMergesModel" "rowKey" "[I", Cond.fieldLink RX4 44 "SegmentMergesModel" "rowValue" "[I", Cond.fieldLink RX4 47 "SegmentMergesModel" "lives" "[Z", Cond.fieldLink RX4 50 "SegmentMergesModel" "full" "I", Cond.fieldLink RX4 54 "SegmentMergesModel" "at" "[I", Cond.fieldLink RX4 57 "SegmentMergesModel" "newKey" "[I", Cond.fieldLink RX4 60 "SegmentMergesModel" "newValue" "[I", Cond.fieldLink RX4 63 "SegmentMergesModel" "newTurn" "[I", Cond.fieldLink RX4 66 "SegmentMergesModel" "goes" "[I", Cond.fieldLink RX4 69 "SegmentMergesModel" "movedNumber" "[I", Cond.fieldLink RX4 72 "SegmentMergesModel" "movedRows" "[I", Cond.fieldLink RX4 75 "SegmentMergesModel" "movedTo" "[I", Cond.fieldLink RX4 78 "SegmentMergesModel" "isView" "[Z", Cond.fieldLink RX4 81 "SegmentMergesModel" "viewed" "[I", Cond.methodLink RL 19 yX3_put, Cond.instanceMethod yX3_put, Cond.selects RX3 yX3_put yX3_put]
def wsL_law0_r4 : List Cond := [Cond.code yX3_put cX3_put 4 (some .int), Cond.fieldLink RX3 69 "SegmentMerges$Memory" "size" "I", Cond.fieldLink RX3 80 "SegmentMerges$Memory" "values" "[I", Cond.methodLink RX3 61 yX3_isKey, Cond.static yX3_isKey, Cond.code yX3_isKey cX3_isKey 1 (some .boolean), Cond.methodLink RX3 65 yX0_find, Cond.instanceMethod yX0_find, Cond.selects RX0 yX0_find yX0_find, Cond.code yX0_find cX0_find 3 (some .int), Cond.methodLink RX3 72 yX3_killRowOf, Cond.instanceMethod yX3_killRowOf, Cond.selects RX3 yX3_killRowOf yX3_killRowOf, Cond.code yX3_killRowOf cX3_killRowOf 3 none, Cond.methodLink RX3 181 yX2_kill, Cond.instanceMethod yX2_kill, Cond.selects RX2 yX2_kill yX2_kill, Cond.initialized RX2, Cond.code yX2_kill cX2_kill 3 none, Cond.fieldLink RX2 19 "SegmentMerges$Segment" "size" "I", Cond.fieldLink RX2 22 "SegmentMerges$Segment" "keys" "[I", Cond.fieldLink RX2 29 "SegmentMerges$Segment" "lives" "[Z", Cond.fieldLink RX2 7 "SegmentMerges$Segment" "living" "I", Cond.methodLink RX3 76 yX0_append]
def wsL_law0_r5 : List Cond := [Cond.instanceMethod yX0_append, Cond.selects RX0 yX0_append yX0_append, Cond.code yX0_append cX0_append 3 none, Cond.methodLink RL 23 yX4_put, Cond.instanceMethod yX4_put, Cond.selects RX4 yX4_put yX4_put, Cond.code yX4_put cX4_put 3 (some .int), Cond.fieldLink RX4 84 "SegmentMergesModel" "thrown" "I", Cond.fieldLink RX4 87 "SegmentMergesModel" "remembered" "I", Cond.methodLink RX4 90 yX4_in, Cond.static yX4_in, Cond.code yX4_in cX4_in 3 (some .boolean), Cond.methodLink RX4 94 yX4_memoryAt, Cond.instanceMethod yX4_memoryAt, Cond.selects RX4 yX4_memoryAt yX4_memoryAt, Cond.code yX4_memoryAt cX4_memoryAt 4 (some .int), Cond.methodLink RX4 98 yX4_die, Cond.instanceMethod yX4_die, Cond.selects RX4 yX4_die yX4_die, Cond.code yX4_die cX4_die 2 none, Cond.methodLink RL 24 yX3_drop, Cond.instanceMethod yX3_drop, Cond.selects RX3 yX3_drop yX3_drop, Cond.code yX3_drop cX3_drop 3 (some .int)]
def wsL_law0_r6 : List Cond := [Cond.methodLink RX3 83 yX0_removeAt, Cond.instanceMethod yX0_removeAt, Cond.selects RX0 yX0_removeAt yX0_removeAt, Cond.code yX0_removeAt cX0_removeAt 3 none, Cond.methodLink RL 28 yX4_drop, Cond.instanceMethod yX4_drop, Cond.selects RX4 yX4_drop yX4_drop, Cond.code yX4_drop cX4_drop 4 (some .int), Cond.methodLink RL 29 yX3_get, Cond.instanceMethod yX3_get, Cond.selects RX3 yX3_get yX3_get, Cond.code yX3_get cX3_get 2 (some .int), Cond.methodLink RL 32 yX4_get, Cond.instanceMethod yX4_get, Cond.selects RX4 yX4_get yX4_get, Cond.code yX4_get cX4_get 2 (some .int), Cond.methodLink RL 33 yX3_next, Cond.instanceMethod yX3_next, Cond.selects RX3 yX3_next yX3_next, Cond.code yX3_next cX3_next 3 (some .int), Cond.methodLink RL 36 yX4_next, Cond.instanceMethod yX4_next, Cond.selects RX4 yX4_next yX4_next, Cond.code yX4_next cX4_next 3 (some .int)]
def wsL_law0_r7 : List Cond := [Cond.methodLink RL 37 yX3_flush, Cond.instanceMethod yX3_flush, Cond.selects RX3 yX3_flush yX3_flush, Cond.code yX3_flush cX3_flush 2 (some .int), Cond.fieldLink RX3 90 "SegmentMerges$Segment" "size" "I", Cond.fieldLink RX3 91 "SegmentMerges$Segment" "number" "I", Cond.methodLink RX3 86 yX0_asSegment, Cond.instanceMethod yX0_asSegment, Cond.selects RX0 yX0_asSegment yX0_asSegment, Cond.code yX0_asSegment cX0_asSegment 4 (some (.object "SegmentMerges$Segment")), Cond.classLink RX0 22 RX2, Cond.instantiable RX2 8, Cond.methodLink RX0 24 yX2_init, Cond.instanceMethod yX2_init, Cond.code yX2_init cX2_init 4 none, Cond.methodLink RX2 1 objectInit, Cond.fieldLink RX2 13 "SegmentMerges$Segment" "number" "I", Cond.fieldLink RX2 16 "SegmentMerges$Segment" "tier" "I", Cond.fieldLink RX2 26 "SegmentMerges$Segment" "values" "[I", Cond.fieldLink RX2 33 "SegmentMerges$Segment" "wentTo" "[I", Cond.methodLink RX0 27 yX0_rankOf, Cond.instanceMethod yX0_rankOf, Cond.selects RX0 yX0_rankOf yX0_rankOf, Cond.code yX0_rankOf cX0_rankOf 4 (some .int)]
def wsL_law0_r8 : List Cond := [Cond.methodLink RX0 31 yX2_write, Cond.instanceMethod yX2_write, Cond.selects RX2 yX2_write yX2_write, Cond.code yX2_write cX2_write 5 none, Cond.methodLink RL 40 yX4_flush, Cond.instanceMethod yX4_flush, Cond.selects RX4 yX4_flush yX4_flush, Cond.code yX4_flush cX4_flush 3 (some .int), Cond.fieldLink RX4 102 "SegmentMergesModel" "segments" "I", Cond.fieldLink RX4 109 "SegmentMergesModel" "numbers" "I", Cond.fieldLink RX4 116 "SegmentMergesModel" "written" "I", Cond.methodLink RX4 105 yX4_freeSlot, Cond.instanceMethod yX4_freeSlot, Cond.selects RX4 yX4_freeSlot yX4_freeSlot, Cond.code yX4_freeSlot cX4_freeSlot 2 (some .int), Cond.methodLink RX4 112 yX4_lay, Cond.instanceMethod yX4_lay, Cond.selects RX4 yX4_lay yX4_lay, Cond.code yX4_lay cX4_lay 6 none, Cond.methodLink RL 41 yX3_count, Cond.instanceMethod yX3_count, Cond.selects RX3 yX3_count yX3_count, Cond.code yX3_count cX3_count 2 (some .int), Cond.methodLink RX3 94 yX3_rowsInSegments]
def wsL_law0_r9 : List Cond := [Cond.instanceMethod yX3_rowsInSegments, Cond.selects RX3 yX3_rowsInSegments yX3_rowsInSegments, Cond.code yX3_rowsInSegments cX3_rowsInSegments 3 (some .int), Cond.methodLink RX3 98 yX3_livingFrom, Cond.instanceMethod yX3_livingFrom, Cond.selects RX3 yX3_livingFrom yX3_livingFrom, Cond.code yX3_livingFrom cX3_livingFrom 5 (some .int), Cond.fieldLink RX3 108 "SegmentMerges$Segment" "living" "I", Cond.methodLink RL 44 yX4_count, Cond.instanceMethod yX4_count, Cond.selects RX4 yX4_count yX4_count, Cond.code yX4_count cX4_count 4 (some .int), Cond.methodLink RX4 122 yX4_all, Cond.instanceMethod yX4_all, Cond.selects RX4 yX4_all yX4_all, Cond.code yX4_all cX4_all 4 (some .int), Cond.methodLink RX4 119 yX4_livingOf, Cond.instanceMethod yX4_livingOf, Cond.selects RX4 yX4_livingOf yX4_livingOf, Cond.code yX4_livingOf cX4_livingOf 4 (some .int), Cond.methodLink RL 45 yX3_segment, Cond.instanceMethod yX3_segment, Cond.selects RX3 yX3_segment yX3_segment, Cond.code yX3_segment cX3_segment 4 (some .int)]
def wsL_law0_r10 : List Cond := [Cond.fieldLink RX3 105 "SegmentMerges$Segment" "tier" "I", Cond.methodLink RX3 102 yX3_isPlace, Cond.instanceMethod yX3_isPlace, Cond.selects RX3 yX3_isPlace yX3_isPlace, Cond.code yX3_isPlace cX3_isPlace 2 (some .boolean), Cond.methodLink RX3 111 yX1_isOf, Cond.instanceMethod yX1_isOf, Cond.selects RX1 yX1_isOf yX1_isOf, Cond.initialized RX1, Cond.code yX1_isOf cX1_isOf 2 (some .boolean), Cond.fieldLink RX1 21 "SegmentMerges$Merge" "place" "I", Cond.fieldLink RX1 26 "SegmentMerges$Merge" "sources" "[LSegmentMerges$Segment;", Cond.methodLink RL 48 yX4_segment, Cond.instanceMethod yX4_segment, Cond.selects RX4 yX4_segment yX4_segment, Cond.code yX4_segment cX4_segment 4 (some .int), Cond.fieldLink RX4 130 "SegmentMergesModel" "merged" "I", Cond.fieldLink RX4 133 "SegmentMergesModel" "mergePlace" "I", Cond.methodLink RX4 126 yX4_isPlace, Cond.instanceMethod yX4_isPlace, Cond.selects RX4 yX4_isPlace yX4_isPlace, Cond.code yX4_isPlace cX4_isPlace 2 (some .boolean), Cond.methodLink RL 49 yX3_row, Cond.instanceMethod yX3_row]
def wsL_law0_r11 : List Cond := [Cond.selects RX3 yX3_row yX3_row, Cond.code yX3_row cX3_row 5 (some .int), Cond.fieldLink RX3 119 "SegmentMerges$Segment" "keys" "[I", Cond.fieldLink RX3 122 "SegmentMerges$Segment" "values" "[I", Cond.fieldLink RX3 123 "SegmentMerges$Segment" "lives" "[Z", Cond.methodLink RX3 116 yX2_hasRow, Cond.instanceMethod yX2_hasRow, Cond.selects RX2 yX2_hasRow yX2_hasRow, Cond.code yX2_hasRow cX2_hasRow 2 (some .boolean), Cond.methodLink RL 53 yX4_row, Cond.instanceMethod yX4_row, Cond.selects RX4 yX4_row yX4_row, Cond.code yX4_row cX4_row 5 (some .int), Cond.methodLink RL 54 yX3_full, Cond.instanceMethod yX3_full, Cond.selects RX3 yX3_full yX3_full, Cond.code yX3_full cX3_full 3 (some .int), Cond.methodLink RL 57 yX4_full, Cond.instanceMethod yX4_full, Cond.selects RX4 yX4_full yX4_full, Cond.code yX4_full cX4_full 3 (some .int), Cond.methodLink RL 58 yX3_due, Cond.instanceMethod yX3_due, Cond.selects RX3 yX3_due yX3_due]
def wsL_law0_r12 : List Cond := [Cond.code yX3_due cX3_due 3 (some .int), Cond.methodLink RX3 126 yX3_isOfOneTier, Cond.instanceMethod yX3_isOfOneTier, Cond.selects RX3 yX3_isOfOneTier yX3_isOfOneTier, Cond.code yX3_isOfOneTier cX3_isOfOneTier 4 (some .boolean), Cond.methodLink RL 61 yX4_due, Cond.instanceMethod yX4_due, Cond.selects RX4 yX4_due yX4_due, Cond.code yX4_due cX4_due 5 (some .int), Cond.methodLink RL 62 yX3_cheapest, Cond.instanceMethod yX3_cheapest, Cond.selects RX3 yX3_cheapest yX3_cheapest, Cond.code yX3_cheapest cX3_cheapest 6 (some .int), Cond.methodLink RX3 130 yX3_canBeMerged, Cond.static yX3_canBeMerged, Cond.code yX3_canBeMerged cX3_canBeMerged 1 (some .boolean), Cond.methodLink RL 65 yX4_cheapest, Cond.instanceMethod yX4_cheapest, Cond.selects RX4 yX4_cheapest yX4_cheapest, Cond.code yX4_cheapest cX4_cheapest 7 (some .int), Cond.methodLink RL 66 yX3_worst, Cond.instanceMethod yX3_worst, Cond.selects RX3 yX3_worst yX3_worst, Cond.code yX3_worst cX3_worst 3 (some .int)]
def wsL_law0_r13 : List Cond := [Cond.methodLink RX3 133 yX2_isDeaderThan, Cond.instanceMethod yX2_isDeaderThan, Cond.selects RX2 yX2_isDeaderThan yX2_isDeaderThan, Cond.code yX2_isDeaderThan cX2_isDeaderThan 2 (some .boolean), Cond.methodLink RL 69 yX4_worst, Cond.instanceMethod yX4_worst, Cond.selects RX4 yX4_worst yX4_worst, Cond.code yX4_worst cX4_worst 7 (some .int), Cond.methodLink RL 70 yX3_begin, Cond.instanceMethod yX3_begin, Cond.selects RX3 yX3_begin yX3_begin, Cond.code yX3_begin cX3_begin 3 (some .int), Cond.classLink RX3 112 RX1, Cond.instantiable RX1 6, Cond.fieldLink RX3 140 "SegmentMerges$Merge" "left" "I", Cond.methodLink RX3 137 yX1_init, Cond.instanceMethod yX1_init, Cond.code yX1_init cX1_init 5 none, Cond.methodLink RX1 3 objectInit, Cond.fieldLink RX1 9 "SegmentMerges$Merge" "taken" "I", Cond.fieldLink RX1 15 "SegmentMerges$Merge" "written" "I", Cond.fieldLink RX1 18 "SegmentMerges$Merge" "left" "I", Cond.classLink RX1 24 RX2, Cond.fieldLink RX1 30 "SegmentMerges$Merge" "takenOf" "[I"]
def wsL_law0_r14 : List Cond := [Cond.fieldLink RX1 34 "SegmentMerges$Segment" "size" "I", Cond.methodLink RL 73 yX4_begin, Cond.instanceMethod yX4_begin, Cond.selects RX4 yX4_begin yX4_begin, Cond.code yX4_begin cX4_begin 4 (some .int), Cond.fieldLink RX4 136 "SegmentMergesModel" "taken" "I", Cond.fieldLink RX4 139 "SegmentMergesModel" "wrote" "I", Cond.methodLink RX4 142 yX4_left, Cond.instanceMethod yX4_left, Cond.selects RX4 yX4_left yX4_left, Cond.code yX4_left cX4_left 3 (some .int), Cond.methodLink RX4 145 yX4_slotOf, Cond.instanceMethod yX4_slotOf, Cond.selects RX4 yX4_slotOf yX4_slotOf, Cond.code yX4_slotOf cX4_slotOf 2 (some .int), Cond.methodLink RL 74 yX3_step, Cond.instanceMethod yX3_step, Cond.selects RX3 yX3_step yX3_step, Cond.code yX3_step cX3_step 3 (some .int), Cond.methodLink RX3 143 yX1_takeOne, Cond.instanceMethod yX1_takeOne, Cond.selects RX1 yX1_takeOne yX1_takeOne, Cond.code yX1_takeOne cX1_takeOne 4 none, Cond.fieldLink RX1 44 "SegmentMerges$Segment" "lives" "[Z"]
def wsL_law0_r15 : List Cond := [Cond.fieldLink RX1 48 "SegmentMerges$Segment" "wentTo" "[I", Cond.methodLink RX1 40 yX1_sourceOfLeastKey, Cond.instanceMethod yX1_sourceOfLeastKey, Cond.selects RX1 yX1_sourceOfLeastKey yX1_sourceOfLeastKey, Cond.code yX1_sourceOfLeastKey cX1_sourceOfLeastKey 4 (some .int), Cond.fieldLink RX1 51 "SegmentMerges$Segment" "keys" "[I", Cond.methodLink RX3 146 yX3_endMerge, Cond.instanceMethod yX3_endMerge, Cond.selects RX3 yX3_endMerge yX3_endMerge, Cond.code yX3_endMerge cX3_endMerge 3 none, Cond.fieldLink RX3 153 "SegmentMerges$Merge" "written" "I", Cond.fieldLink RX3 156 "SegmentMerges$Merge" "place" "I", Cond.fieldLink RX3 185 "SegmentMerges$Merge" "sources" "[LSegmentMerges$Segment;", Cond.methodLink RX3 184 yX1_asSegment, Cond.instanceMethod yX1_asSegment, Cond.selects RX1 yX1_asSegment yX1_asSegment, Cond.code yX1_asSegment cX1_asSegment 6 (some (.object "SegmentMerges$Segment")), Cond.fieldLink RX1 60 "SegmentMerges$Segment" "values" "[I", Cond.methodLink RX1 54 yX1_greatestTier, Cond.instanceMethod yX1_greatestTier, Cond.selects RX1 yX1_greatestTier yX1_greatestTier, Cond.code yX1_greatestTier cX1_greatestTier 3 (some .int), Cond.fieldLink RX1 67 "SegmentMerges$Segment" "tier" "I", Cond.methodLink RX1 70 Lib.Math.max.name]
def wsL_law0_r16 : List Cond := [Cond.static Lib.Math.max.name, Cond.initialized "java/lang/Math", Cond.code Lib.Math.max.name Lib.Math.max.code 2 (some .int), Cond.methodLink RX1 57 yX2_init, Cond.methodLink RX1 63 yX2_write, Cond.methodLink RX3 188 yX3_closeGap, Cond.instanceMethod yX3_closeGap, Cond.selects RX3 yX3_closeGap yX3_closeGap, Cond.code yX3_closeGap cX3_closeGap 4 none, Cond.methodLink RL 77 yX4_step, Cond.instanceMethod yX4_step, Cond.selects RX4 yX4_step yX4_step, Cond.code yX4_step cX4_step 3 (some .int), Cond.methodLink RX4 151 yX4_takeOne, Cond.instanceMethod yX4_takeOne, Cond.selects RX4 yX4_takeOne yX4_takeOne, Cond.code yX4_takeOne cX4_takeOne 3 none, Cond.methodLink RX4 148 yX4_keyAt, Cond.instanceMethod yX4_keyAt, Cond.selects RX4 yX4_keyAt yX4_keyAt, Cond.code yX4_keyAt cX4_keyAt 2 (some .int), Cond.methodLink RX4 154 yX4_end, Cond.instanceMethod yX4_end, Cond.selects RX4 yX4_end yX4_end]
def wsL_law0_r17 : List Cond := [Cond.code yX4_end cX4_end 7 none, Cond.fieldLink RX4 157 "SegmentMergesModel" "movedMany" "I", Cond.methodLink RL 78 yX3_stop, Cond.instanceMethod yX3_stop, Cond.selects RX3 yX3_stop yX3_stop, Cond.code yX3_stop cX3_stop 2 (some .int), Cond.fieldLink RX3 150 "SegmentMerges$Merge" "taken" "I", Cond.methodLink RL 81 yX4_stop, Cond.instanceMethod yX4_stop, Cond.selects RX4 yX4_stop yX4_stop, Cond.code yX4_stop cX4_stop 1 (some .int), Cond.methodLink RL 82 yX3_merging, Cond.instanceMethod yX3_merging, Cond.selects RX3 yX3_merging yX3_merging, Cond.code yX3_merging cX3_merging 2 (some .int), Cond.methodLink RL 85 yX4_merging, Cond.instanceMethod yX4_merging, Cond.selects RX4 yX4_merging yX4_merging, Cond.code yX4_merging cX4_merging 2 (some .int), Cond.methodLink RL 86 yX3_moved, Cond.instanceMethod yX3_moved, Cond.selects RX3 yX3_moved yX3_moved, Cond.code yX3_moved cX3_moved 4 (some .int), Cond.fieldLink RX3 162 "SegmentMerges$Segment" "wentTo" "[I"]
def wsL_law0_r18 : List Cond := [Cond.methodLink RX3 159 yX1_sourceOf, Cond.instanceMethod yX1_sourceOf, Cond.selects RX1 yX1_sourceOf yX1_sourceOf, Cond.code yX1_sourceOf cX1_sourceOf 3 (some (.object "SegmentMerges$Segment")), Cond.fieldLink RX1 37 "SegmentMerges$Segment" "number" "I", Cond.methodLink RL 89 yX4_moved, Cond.instanceMethod yX4_moved, Cond.selects RX4 yX4_moved yX4_moved, Cond.code yX4_moved cX4_moved 4 (some .int), Cond.methodLink RL 90 yX3_view, Cond.instanceMethod yX3_view, Cond.selects RX3 yX3_view yX3_view, Cond.code yX3_view cX3_view 2 (some .int), Cond.methodLink RX3 165 arraycopyName, Cond.native arraycopyName, Cond.static arraycopyName, Cond.initialized "java/lang/System", Cond.methodLink RL 93 yX4_view, Cond.instanceMethod yX4_view, Cond.selects RX4 yX4_view yX4_view, Cond.code yX4_view cX4_view 3 (some .int), Cond.methodLink RL 94 yX3_seen, Cond.instanceMethod yX3_seen, Cond.selects RX3 yX3_seen yX3_seen]
def wsL_law0_r19 : List Cond := [Cond.code yX3_seen cX3_seen 4 (some .int), Cond.methodLink RX3 171 yX3_isOpenView, Cond.instanceMethod yX3_isOpenView, Cond.selects RX3 yX3_isOpenView yX3_isOpenView, Cond.code yX3_isOpenView cX3_isOpenView 2 (some .boolean), Cond.methodLink RL 97 yX4_seen, Cond.instanceMethod yX4_seen, Cond.selects RX4 yX4_seen yX4_seen, Cond.code yX4_seen cX4_seen 3 (some .int), Cond.methodLink RX4 160 yX4_isOpen, Cond.instanceMethod yX4_isOpen, Cond.selects RX4 yX4_isOpen yX4_isOpen, Cond.code yX4_isOpen cX4_isOpen 2 (some .boolean), Cond.methodLink RL 98 yX3_shut, Cond.instanceMethod yX3_shut, Cond.selects RX3 yX3_shut yX3_shut, Cond.code yX3_shut cX3_shut 4 (some .int), Cond.methodLink RL 101 yX4_shut, Cond.instanceMethod yX4_shut, Cond.selects RX4 yX4_shut yX4_shut, Cond.code yX4_shut cX4_shut 4 (some .int), Cond.methodLink RL 102 yL_share, Cond.static yL_share, Cond.initialized RL]
def wsL_law0_r20 : List Cond := [Cond.codeWith yL_share cL_share 3 (some .int) [(0, 8, 11, 13)], Cond.classLink RL 13 "java/lang/ArithmeticException", Cond.methodLink RL 7 yX3_share, Cond.instanceMethod yX3_share, Cond.selects RX3 yX3_share yX3_share, Cond.code yX3_share cX3_share 2 (some .int), Cond.classLink RX3 174 "java/lang/ArithmeticException", Cond.initialized "java/lang/ArithmeticException", Cond.methodLink RL 107 yX4_share, Cond.instanceMethod yX4_share, Cond.selects RX4 yX4_share yX4_share, Cond.code yX4_share cX4_share 2 (some .int), Cond.methodLink RL 108 yX4_thrown, Cond.instanceMethod yX4_thrown, Cond.selects RX4 yX4_thrown yX4_thrown, Cond.code yX4_thrown cX4_thrown 1 (some .int)]
def wsL_law0 : List Cond := (wsL_law0_r1 ++ (wsL_law0_r2 ++ (wsL_law0_r3 ++ (wsL_law0_r4 ++ (wsL_law0_r5 ++ (wsL_law0_r6 ++ (wsL_law0_r7 ++ (wsL_law0_r8 ++ (wsL_law0_r9 ++ (wsL_law0_r10 ++ (wsL_law0_r11 ++ (wsL_law0_r12 ++ (wsL_law0_r13 ++ (wsL_law0_r14 ++ (wsL_law0_r15 ++ (wsL_law0_r16 ++ (wsL_law0_r17 ++ (wsL_law0_r18 ++ (wsL_law0_r19 ++ wsL_law0_r20))))))))))))))))))) ++ wsX30 ++ wsX40 ++ wsX00 ++ wsX20 ++ wsX10 ++ ([] : List Cond)
def wsL_law : List Cond := wsL_law0 ++ (vx_atS RX3 178 "java/lang/ArithmeticException" ["java/lang/RuntimeException", "java/lang/Exception"]).filter goodWord
theorem mem_rr {big ws : List Cond} (ps : List Nat) (hp : ws = ps.filterMap (fun i => big[i]?)) : ∀ w ∈ ws, w ∈ big := by
  intro w hw
  rw [hp] at hw
  obtain ⟨i, -, hi⟩ := List.mem_filterMap.mp hw
  first | exact List.mem_of_getElem? hi | exact List.getElem?_mem hi
set_option maxRecDepth 20000 in
theorem lin_wsL_law0_r1 : ∀ w ∈ wsL_law0_r1, w ∈ lw_tbl := mem_rr [38, 39, 26, 444, 445, 29, 696, 40, 41, 42, 43, 44, 45, 64, 72, 46, 47, 27, 73, 65, 74, 75, 76, 77] (by decide +kernel)
set_option maxRecDepth 20000 in
theorem lin_wsL_law0_r2 : ∀ w ∈ wsL_law0_r2, w ∈ lw_tbl := mem_rr [78, 79, 80, 67, 81, 106, 82, 49, 50, 51, 52, 53, 55, 69, 70, 28, 71, 446, 447, 448, 449, 451, 452, 453] (by decide +kernel)
set_option maxRecDepth 20000 in
theorem lin_wsL_law0_r3 : ∀ w ∈ wsL_law0_r3, w ∈ lw_tbl := mem_rr [454, 456, 458, 459, 460, 461, 462, 463, 464, 465, 468, 473, 474, 475, 476, 477, 479, 480, 481, 482, 483, 107, 108, 109] (by decide +kernel)
set_option maxRecDepth 20000 in
theorem lin_wsL_law0_r4 : ∀ w ∈ wsL_law0_r4, w ∈ lw_tbl := mem_rr [110, 56, 54, 111, 112, 113, 114, 115, 116, 117, 118, 120, 0, 121, 122, 123, 124, 30, 125, 166, 169, 175, 181, 126] (by decide +kernel)
set_option maxRecDepth 20000 in
theorem lin_wsL_law0_r5 : ∀ w ∈ wsL_law0_r5, w ∈ lw_tbl := mem_rr [127, 128, 129, 557, 558, 559, 560, 450, 455, 561, 562, 563, 564, 566, 12, 567, 568, 570, 13, 571, 130, 131, 132, 133] (by decide +kernel)
set_option maxRecDepth 20000 in
theorem lin_wsL_law0_r6 : ∀ w ∈ wsL_law0_r6, w ∈ lw_tbl := mem_rr [134, 135, 136, 137, 572, 573, 574, 575, 138, 139, 140, 141, 576, 577, 578, 579, 142, 143, 144, 145, 580, 581, 582, 583] (by decide +kernel)
set_option maxRecDepth 20000 in
theorem lin_wsL_law0_r7 : ∀ w ∈ wsL_law0_r7, w ∈ lw_tbl := mem_rr [146, 147, 148, 149, 168, 162, 150, 151, 152, 153, 154, 155, 156, 157, 158, 159, 160, 163, 172, 178, 200, 202, 1, 203] (by decide +kernel)
set_option maxRecDepth 20000 in
theorem lin_wsL_law0_r8 : ∀ w ∈ wsL_law0_r8, w ∈ lw_tbl := mem_rr [204, 205, 206, 207, 584, 585, 586, 587, 457, 466, 467, 588, 590, 14, 591, 592, 594, 15, 595, 208, 209, 210, 211, 212] (by decide +kernel)
set_option maxRecDepth 20000 in
theorem lin_wsL_law0_r9 : ∀ w ∈ wsL_law0_r9, w ∈ lw_tbl := mem_rr [214, 2, 215, 216, 218, 3, 219, 182, 596, 597, 598, 599, 600, 602, 16, 603, 604, 606, 17, 607, 220, 221, 222, 223] (by decide +kernel)
set_option maxRecDepth 20000 in
theorem lin_wsL_law0_r10 : ∀ w ∈ wsL_law0_r10, w ∈ lw_tbl := mem_rr [165, 224, 226, 4, 227, 228, 229, 230, 31, 231, 278, 280, 608, 609, 610, 611, 469, 470, 612, 614, 18, 615, 232, 233] (by decide +kernel)
set_option maxRecDepth 20000 in
theorem lin_wsL_law0_r11 : ∀ w ∈ wsL_law0_r11, w ∈ lw_tbl := mem_rr [234, 235, 171, 174, 177, 236, 237, 238, 239, 616, 617, 618, 619, 240, 241, 242, 243, 620, 621, 622, 623, 244, 245, 246] (by decide +kernel)
set_option maxRecDepth 20000 in
theorem lin_wsL_law0_r12 : ∀ w ∈ wsL_law0_r12, w ∈ lw_tbl := mem_rr [247, 248, 250, 5, 251, 624, 625, 626, 627, 252, 253, 254, 255, 256, 257, 258, 628, 629, 630, 631, 259, 260, 261, 262] (by decide +kernel)
set_option maxRecDepth 20000 in
theorem lin_wsL_law0_r13 : ∀ w ∈ wsL_law0_r13, w ∈ lw_tbl := mem_rr [263, 264, 265, 266, 632, 633, 634, 635, 267, 268, 269, 270, 271, 272, 288, 273, 274, 275, 276, 283, 285, 287, 277, 282] (by decide +kernel)
set_option maxRecDepth 20000 in
theorem lin_wsL_law0_r14 : ∀ w ∈ wsL_law0_r14, w ∈ lw_tbl := mem_rr [167, 636, 637, 638, 639, 471, 472, 640, 642, 19, 643, 644, 646, 20, 647, 302, 303, 304, 305, 306, 307, 308, 309, 176] (by decide +kernel)
set_option maxRecDepth 20000 in
theorem lin_wsL_law0_r15 : ∀ w ∈ wsL_law0_r15, w ∈ lw_tbl := mem_rr [179, 310, 312, 6, 313, 170, 314, 316, 7, 317, 286, 279, 281, 318, 319, 320, 321, 173, 322, 324, 8, 325, 164, 326] (by decide +kernel)
set_option maxRecDepth 20000 in
theorem lin_wsL_law0_r16 : ∀ w ∈ wsL_law0_r16, w ∈ lw_tbl := mem_rr [327, 32, 328, 329, 330, 331, 333, 9, 334, 648, 649, 650, 651, 652, 654, 21, 655, 656, 658, 22, 659, 660, 662, 23] (by decide +kernel)
set_option maxRecDepth 20000 in
theorem lin_wsL_law0_r17 : ∀ w ∈ wsL_law0_r17, w ∈ lw_tbl := mem_rr [663, 478, 335, 336, 337, 338, 284, 664, 665, 666, 667, 339, 340, 341, 342, 668, 669, 670, 671, 343, 344, 345, 346, 180] (by decide +kernel)
set_option maxRecDepth 20000 in
theorem lin_wsL_law0_r18 : ∀ w ∈ wsL_law0_r18, w ∈ lw_tbl := mem_rr [347, 348, 349, 350, 161, 672, 673, 674, 675, 351, 352, 353, 354, 355, 357, 356, 33, 676, 677, 678, 679, 358, 359, 360] (by decide +kernel)
set_option maxRecDepth 20000 in
theorem lin_wsL_law0_r19 : ∀ w ∈ wsL_law0_r19, w ∈ lw_tbl := mem_rr [361, 362, 364, 10, 365, 680, 681, 682, 683, 684, 686, 24, 687, 366, 367, 368, 369, 688, 689, 690, 691, 370, 371, 25] (by decide +kernel)
set_option maxRecDepth 20000 in
theorem lin_wsL_law0_r20 : ∀ w ∈ wsL_law0_r20, w ∈ lw_tbl := mem_rr [372, 373, 374, 375, 376, 377, 378, 37, 692, 693, 694, 695, 553, 554, 555, 556] (by decide +kernel)
set_option maxRecDepth 20000 in
theorem lin_wsX30 : ∀ w ∈ wsX30, w ∈ lw_tbl := mem_rr [83, 85, 87, 89, 91, 93, 95, 97, 99, 101, 103] (by decide +kernel)
set_option maxRecDepth 20000 in
theorem lin_wsX40 : ∀ w ∈ wsX40, w ∈ lw_tbl := mem_rr [484, 486, 488, 490, 492, 494, 496, 498, 500, 502, 504, 506, 508, 510, 512, 514, 516, 518, 520, 522, 524, 526, 528, 530, 532, 534, 536, 538, 540, 542, 544, 546, 548, 550] (by decide +kernel)
set_option maxRecDepth 20000 in
theorem lin_wsX00 : ∀ w ∈ wsX00, w ∈ lw_tbl := mem_rr [57, 59, 61] (by decide +kernel)
set_option maxRecDepth 20000 in
theorem lin_wsX20 : ∀ w ∈ wsX20, w ∈ lw_tbl := mem_rr [183, 185, 187, 189, 191, 193, 195, 197] (by decide +kernel)
set_option maxRecDepth 20000 in
theorem lin_wsX10 : ∀ w ∈ wsX10, w ∈ lw_tbl := mem_rr [289, 291, 293, 295, 297, 299] (by decide +kernel)
theorem wsL_law_in0 : ∀ w ∈ wsL_law0, w ∈ lw_tbl := fun w h => (fun h => (List.mem_append.mp h).elim (fun h => (List.mem_append.mp h).elim (fun h => (List.mem_append.mp h).elim (fun h => (List.mem_append.mp h).elim (fun h => (List.mem_append.mp h).elim (fun h => (List.mem_append.mp h).elim (fun h => (List.mem_append.mp h).elim (fun h => lin_wsL_law0_r1 w h) (fun h => (List.mem_append.mp h).elim (fun h => lin_wsL_law0_r2 w h) (fun h => (List.mem_append.mp h).elim (fun h => lin_wsL_law0_r3 w h) (fun h => (List.mem_append.mp h).elim (fun h => lin_wsL_law0_r4 w h) (fun h => (List.mem_append.mp h).elim (fun h => lin_wsL_law0_r5 w h) (fun h => (List.mem_append.mp h).elim (fun h => lin_wsL_law0_r6 w h) (fun h => (List.mem_append.mp h).elim (fun h => lin_wsL_law0_r7 w h) (fun h => (List.mem_append.mp h).elim (fun h => lin_wsL_law0_r8 w h) (fun h => (List.mem_append.mp h).elim (fun h => lin_wsL_law0_r9 w h) (fun h => (List.mem_append.mp h).elim (fun h => lin_wsL_law0_r10 w h) (fun h => (List.mem_append.mp h).elim (fun h => lin_wsL_law0_r11 w h) (fun h => (List.mem_append.mp h).elim (fun h => lin_wsL_law0_r12 w h) (fun h => (List.mem_append.mp h).elim (fun h => lin_wsL_law0_r13 w h) (fun h => (List.mem_append.mp h).elim (fun h => lin_wsL_law0_r14 w h) (fun h => (List.mem_append.mp h).elim (fun h => lin_wsL_law0_r15 w h) (fun h => (List.mem_append.mp h).elim (fun h => lin_wsL_law0_r16 w h) (fun h => (List.mem_append.mp h).elim (fun h => lin_wsL_law0_r17 w h) (fun h => (List.mem_append.mp h).elim (fun h => lin_wsL_law0_r18 w h) (fun h => (List.mem_append.mp h).elim (fun h => lin_wsL_law0_r19 w h) (fun h => lin_wsL_law0_r20 w h)))))))))))))))))))) (fun h => lin_wsX30 w h)) (fun h => lin_wsX40 w h)) (fun h => lin_wsX00 w h)) (fun h => lin_wsX20 w h)) (fun h => lin_wsX10 w h)) (fun h => absurd h List.not_mem_nil)) h
theorem wsL_law_x0 : ∀ w ∈ (vx_atS RX3 178 "java/lang/ArithmeticException" ["java/lang/RuntimeException", "java/lang/Exception"]).filter goodWord, w ∈ lw_tbl := by decide +kernel
theorem wsL_law_in : ∀ w ∈ wsL_law, w ∈ lw_tbl := fun w h => (List.mem_append.mp h).elim (fun h => wsL_law_in0 w h) (fun h => wsL_law_x0 w h)
theorem inlX0 : ∀ w ∈ wsX00, w ∈ wsL_law := fun _ h => List.mem_append_left _ (List.mem_append_left _ (List.mem_append_left _ (List.mem_append_left _ (List.mem_append_right _ h))))
theorem inX0 : ∀ w ∈ wsX00, w ∈ lw_tbl := fun w h => wsL_law_in w (inlX0 w h)
theorem inlX1 : ∀ w ∈ wsX10, w ∈ wsL_law := fun _ h => List.mem_append_left _ (List.mem_append_left _ (List.mem_append_right _ h))
theorem inX1 : ∀ w ∈ wsX10, w ∈ lw_tbl := fun w h => wsL_law_in w (inlX1 w h)
theorem inlX2 : ∀ w ∈ wsX20, w ∈ wsL_law := fun _ h => List.mem_append_left _ (List.mem_append_left _ (List.mem_append_left _ (List.mem_append_right _ h)))
theorem inX2 : ∀ w ∈ wsX20, w ∈ lw_tbl := fun w h => wsL_law_in w (inlX2 w h)
theorem inlX3 : ∀ w ∈ wsX30, w ∈ wsL_law := fun _ h => List.mem_append_left _ (List.mem_append_left _ (List.mem_append_left _ (List.mem_append_left _ (List.mem_append_left _ (List.mem_append_left _ (List.mem_append_right _ h))))))
theorem inX3 : ∀ w ∈ wsX30, w ∈ lw_tbl := fun w h => wsL_law_in w (inlX3 w h)
theorem inlX4 : ∀ w ∈ wsX40, w ∈ wsL_law := fun _ h => List.mem_append_left _ (List.mem_append_left _ (List.mem_append_left _ (List.mem_append_left _ (List.mem_append_left _ (List.mem_append_right _ h)))))
theorem inX4 : ∀ w ∈ wsX40, w ∈ lw_tbl := fun w h => wsL_law_in w (inlX4 w h)
theorem inJ9 : ∀ w ∈ wsJ90, w ∈ lw_tbl := by decide +kernel
theorem inJ0 : ∀ w ∈ wsJ00, w ∈ lw_tbl := by decide +kernel
theorem inJ10 : ∀ w ∈ wsJ100, w ∈ lw_tbl := by decide +kernel
theorem inJ7 : ∀ w ∈ wsJ70, w ∈ lw_tbl := by decide +kernel
abbrev vwCl : List vw_C := [(RX0, TX0, 3), (RX1, TX1, 6), (RX2, TX2, 8), (RX3, TX3, 11), (RX4, TX4, 34)]
