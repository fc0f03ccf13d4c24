theorem goodIn_r {big : List Cond} (ws : List Cond) (ps : List Nat) (hp : ws = ps.filterMap (fun i => big[i]?)) (h : ws.all goodWord = true) : GoodIn big ws := by
  intro w hw
  have h1 := List.all_eq_true.mp h w hw
  rw [hp] at hw
  obtain ⟨i, -, hi⟩ := List.mem_filterMap.mp hw
  have hm : w ∈ big := by first | exact List.mem_of_getElem? hi | exact List.getElem?_mem hi
  exact ⟨hm, good_of_word h1⟩
theorem goodIn_app {big a b : List Cond} (ha : GoodIn big a) (hb : GoodIn big b) : GoodIn big (a ++ b) := fun w h => (List.mem_append.mp h).elim (ha w) (hb w)
theorem goodIn_ca {big a b : List Cond} {c : Cond} (ha : GoodIn big (c :: a)) (hb : GoodIn big b) : GoodIn big (c :: (a ++ b)) := fun w h => (List.mem_cons.mp h).elim (fun e => ha w (List.mem_cons.mpr (Or.inl e))) (fun h => (List.mem_append.mp h).elim (fun h => ha w (List.mem_cons.mpr (Or.inr h))) (hb w))
theorem goodIn_sub {big ws : List Cond} (hm : ∀ w ∈ ws, w ∈ big) (h : ws.all goodWord = true) : GoodIn big ws := fun w hw => ⟨hm w hw, good_of_word (List.all_eq_true.mp h w hw)⟩
def RX0 : String := "TariffDesk$Draws"
def TX0 : u_T := fun k => match k with
  | _ => ("TariffDesk$Draws", "seed", "I", false)
def tyX0 : Nat → FieldType := fun k => match k with
  | _ => .int
abbrev wsX00 : List Cond := u_ws RX0 TX0 1
theorem nmX0 : ∀ a, a < 1 → ∀ b, b < 1 → a ≠ b → (TX0 a).2.1 ≠ (TX0 b).2.1 := by decide +kernel
theorem tyX0_ok : ∀ k, k < 1 → parseFieldDescriptor (TX0 k).2.2.1 = some (tyX0 k) := by decide +kernel
abbrev cX0_init : ByteArray := prog_2_method_1_code
def yX0_init : MethodName := ⟨RX0, "<init>", "()V"⟩
abbrev cX0_drawTariff : ByteArray := prog_2_method_2_code
def yX0_drawTariff : MethodName := ⟨RX0, "drawTariff", "(LTariffDesk$Tariff;)V"⟩
abbrev cX0_below : ByteArray := prog_2_method_3_code
def yX0_below : MethodName := ⟨RX0, "below", "(I)I"⟩
def RX1 : String := "TariffDesk$Page"
def TX1 : u_T := fun k => match k with
  | 0 => ("TariffDesk$Page", "letters", "[I", true)
  | _ => ("TariffDesk$Page", "length", "I", false)
def tyX1 : Nat → FieldType := fun k => match k with
  | 0 => .array .int
  | _ => .int
abbrev wsX10 : List Cond := u_ws RX1 TX1 2
theorem nmX1 : ∀ a, a < 2 → ∀ b, b < 2 → a ≠ b → (TX1 a).2.1 ≠ (TX1 b).2.1 := by decide +kernel
theorem tyX1_ok : ∀ k, k < 2 → parseFieldDescriptor (TX1 k).2.2.1 = some (tyX1 k) := by decide +kernel
abbrev cX1_init : ByteArray := prog_3_method_1_code
def yX1_init : MethodName := ⟨RX1, "<init>", "()V"⟩
abbrev cX1_write : ByteArray := prog_3_method_2_code
def yX1_write : MethodName := ⟨RX1, "write", "(I)Z"⟩
abbrev cX1_letterAt : ByteArray := prog_3_method_3_code
def yX1_letterAt : MethodName := ⟨RX1, "letterAt", "(I)I"⟩
abbrev cX1_firstWrong : ByteArray := prog_3_method_4_code
def yX1_firstWrong : MethodName := ⟨RX1, "firstWrong", "()I"⟩
abbrev cX1_isWholeDesk : ByteArray := prog_3_method_5_code
def yX1_isWholeDesk : MethodName := ⟨RX1, "isWholeDesk", "()Z"⟩
abbrev cX1_goesOn : ByteArray := prog_3_method_6_code
def yX1_goesOn : MethodName := ⟨RX1, "goesOn", "(I)Z"⟩
abbrev cX1_readTariff : ByteArray := prog_3_method_7_code
def yX1_readTariff : MethodName := ⟨RX1, "readTariff", "(ILTariffDesk$Tariff;)V"⟩
abbrev cX1_isDigit : ByteArray := prog_3_method_8_code
def yX1_isDigit : MethodName := ⟨RX1, "isDigit", "(I)Z"⟩
abbrev cX1_signAt : ByteArray := prog_3_method_9_code
def yX1_signAt : MethodName := ⟨RX1, "signAt", "(I)I"⟩
abbrev cX1_digitAt : ByteArray := prog_3_method_10_code
def yX1_digitAt : MethodName := ⟨RX1, "digitAt", "(I)I"⟩
abbrev cX1_pairAt : ByteArray := prog_3_method_11_code
def yX1_pairAt : MethodName := ⟨RX1, "pairAt", "(I)I"⟩
def RX2 : String := "TariffDesk$Seen"
def TX2 : u_T := fun k => match k with
  | 0 => ("TariffDesk$Seen", "numbers", "[I", true)
  | 1 => ("TariffDesk$Seen", "quantities", "[I", true)
  | 2 => ("TariffDesk$Seen", "prices", "[I", true)
  | 3 => ("TariffDesk$Seen", "pricesByKind", "[J", true)
  | _ => ("TariffDesk$Seen", "size", "I", false)
def tyX2 : Nat → FieldType := fun k => match k with
  | 0 => .array .int
  | 1 => .array .int
  | 2 => .array .int
  | 3 => .array .long
  | _ => .int
abbrev wsX20 : List Cond := u_ws RX2 TX2 5
theorem nmX2 : ∀ a, a < 5 → ∀ b, b < 5 → a ≠ b → (TX2 a).2.1 ≠ (TX2 b).2.1 := by decide +kernel
theorem tyX2_ok : ∀ k, k < 5 → parseFieldDescriptor (TX2 k).2.2.1 = some (tyX2 k) := by decide +kernel
abbrev cX2_init : ByteArray := prog_4_method_1_code
def yX2_init : MethodName := ⟨RX2, "<init>", "()V"⟩
abbrev cX2_write : ByteArray := prog_4_method_2_code
def yX2_write : MethodName := ⟨RX2, "write", "(III)Z"⟩
abbrev cX2_copyFrom : ByteArray := prog_4_method_3_code
def yX2_copyFrom : MethodName := ⟨RX2, "copyFrom", "(LTariffDesk$Seen;)V"⟩
abbrev cX2_sortsOf : ByteArray := prog_4_method_4_code
def yX2_sortsOf : MethodName := ⟨RX2, "sortsOf", "(ILTariffDesk$Tariff;)I"⟩
abbrev cX2_nextToAsk : ByteArray := prog_4_method_5_code
def yX2_nextToAsk : MethodName := ⟨RX2, "nextToAsk", "(ILTariffDesk$Tariff;)I"⟩
abbrev cX2_canBe : ByteArray := prog_4_method_6_code
def yX2_canBe : MethodName := ⟨RX2, "canBe", "(IILTariffDesk$Tariff;)Z"⟩
abbrev cX2_leftAtWorst : ByteArray := prog_4_method_7_code
def yX2_leftAtWorst : MethodName := ⟨RX2, "leftAtWorst", "(ILTariffDesk$Tariff;I)I"⟩
def RX3 : String := "TariffDesk$Tariff"
def TX3 : u_T := fun k => match k with
  | 0 => ("TariffDesk$Tariff", "kind", "I", false)
  | 1 => ("TariffDesk$Tariff", "rate", "I", false)
  | 2 => ("TariffDesk$Tariff", "base", "I", false)
  | 3 => ("TariffDesk$Tariff", "first", "I", false)
  | _ => ("TariffDesk$Tariff", "last", "I", false)
def tyX3 : Nat → FieldType := fun k => match k with
  | 0 => .int
  | 1 => .int
  | 2 => .int
  | 3 => .int
  | _ => .int
abbrev wsX30 : List Cond := u_ws RX3 TX3 5
theorem nmX3 : ∀ a, a < 5 → ∀ b, b < 5 → a ≠ b → (TX3 a).2.1 ≠ (TX3 b).2.1 := by decide +kernel
theorem tyX3_ok : ∀ k, k < 5 → parseFieldDescriptor (TX3 k).2.2.1 = some (tyX3 k) := by decide +kernel
abbrev cX3_init : ByteArray := prog_5_method_1_code
def yX3_init : MethodName := ⟨RX3, "<init>", "()V"⟩
abbrev cX3_write : ByteArray := prog_5_method_2_code
def yX3_write : MethodName := ⟨RX3, "write", "(IIIII)V"⟩
abbrev cX3_copyFrom : ByteArray := prog_5_method_3_code
def yX3_copyFrom : MethodName := ⟨RX3, "copyFrom", "(LTariffDesk$Tariff;)V"⟩
abbrev cX3_spans : ByteArray := prog_5_method_4_code
def yX3_spans : MethodName := ⟨RX3, "spans", "(I)Z"⟩
abbrev cX3_isOf : ByteArray := prog_5_method_5_code
def yX3_isOf : MethodName := ⟨RX3, "isOf", "(I)Z"⟩
abbrev cX3_priceFor : ByteArray := prog_5_method_6_code
def yX3_priceFor : MethodName := ⟨RX3, "priceFor", "(I)J"⟩
abbrev cX3_priceAs : ByteArray := prog_5_method_7_code
def yX3_priceAs : MethodName := ⟨RX3, "priceAs", "(II)J"⟩
abbrev cX3_byBase : ByteArray := prog_5_method_8_code
def yX3_byBase : MethodName := ⟨RX3, "byBase", "(I)I"⟩
abbrev cX3_byRate : ByteArray := prog_5_method_9_code
def yX3_byRate : MethodName := ⟨RX3, "byRate", "(II)J"⟩
abbrev cX3_isTooGreat : ByteArray := prog_5_method_10_code
def yX3_isTooGreat : MethodName := ⟨RX3, "isTooGreat", "()Z"⟩
abbrev cX3_fitsFor : ByteArray := prog_5_method_11_code
def yX3_fitsFor : MethodName := ⟨RX3, "fitsFor", "(I)Z"⟩
abbrev cX3_fits : ByteArray := prog_5_method_12_code
def yX3_fits : MethodName := ⟨RX3, "fits", "(J)Z"⟩
def RX4 : String := "TariffDesk$Tariffs"
def TX4 : u_T := fun k => match k with
  | 0 => ("TariffDesk$Tariffs", "rows", "[LTariffDesk$Tariff;", true)
  | _ => ("TariffDesk$Tariffs", "size", "I", false)
def tyX4 : Nat → FieldType := fun k => match k with
  | 0 => .array (.object "TariffDesk$Tariff")
  | _ => .int
abbrev wsX40 : List Cond := u_ws RX4 TX4 2
theorem nmX4 : ∀ a, a < 2 → ∀ b, b < 2 → a ≠ b → (TX4 a).2.1 ≠ (TX4 b).2.1 := by decide +kernel
theorem tyX4_ok : ∀ k, k < 2 → parseFieldDescriptor (TX4 k).2.2.1 = some (tyX4 k) := by decide +kernel
abbrev cX4_init : ByteArray := prog_6_method_1_code
def yX4_init : MethodName := ⟨RX4, "<init>", "(I)V"⟩
abbrev cX4_hasNumber : ByteArray := prog_6_method_2_code
def yX4_hasNumber : MethodName := ⟨RX4, "hasNumber", "(I)Z"⟩
abbrev cX4_at : ByteArray := prog_6_method_3_code
def yX4_at : MethodName := ⟨RX4, "at", "(I)LTariffDesk$Tariff;"⟩
abbrev cX4_add : ByteArray := prog_6_method_4_code
def yX4_add : MethodName := ⟨RX4, "add", "(LTariffDesk$Tariff;)V"⟩
abbrev cX4_copyFrom : ByteArray := prog_6_method_5_code
def yX4_copyFrom : MethodName := ⟨RX4, "copyFrom", "(LTariffDesk$Tariffs;)V"⟩
abbrev cX4_isBetter : ByteArray := prog_6_method_6_code
def yX4_isBetter : MethodName := ⟨RX4, "isBetter", "(III)Z"⟩
def RX5 : String := "TariffDesk$Tree"
def TX5 : u_T := fun k => match k with
  | 0 => ("TariffDesk$Tree", "tariffs", "LTariffDesk$Tariffs;", true)
  | 1 => ("TariffDesk$Tree", "stands", "[I", true)
  | 2 => ("TariffDesk$Tree", "changedNodes", "[I", true)
  | 3 => ("TariffDesk$Tree", "stoodBefore", "[I", true)
  | 4 => ("TariffDesk$Tree", "changesBefore", "[I", true)
  | 5 => ("TariffDesk$Tree", "changes", "I", false)
  | _ => ("TariffDesk$Tree", "lowest", "[I", true)
def tyX5 : Nat → FieldType := fun k => match k with
  | 0 => .object "TariffDesk$Tariffs"
  | 1 => .array .int
  | 2 => .array .int
  | 3 => .array .int
  | 4 => .array .int
  | 5 => .int
  | _ => .array .int
abbrev wsX50 : List Cond := u_ws RX5 TX5 7
theorem nmX5 : ∀ a, a < 7 → ∀ b, b < 7 → a ≠ b → (TX5 a).2.1 ≠ (TX5 b).2.1 := by decide +kernel
theorem tyX5_ok : ∀ k, k < 7 → parseFieldDescriptor (TX5 k).2.2.1 = some (tyX5 k) := by decide +kernel
abbrev cX5_init : ByteArray := prog_7_method_1_code
def yX5_init : MethodName := ⟨RX5, "<init>", "(LTariffDesk$Tariffs;)V"⟩
abbrev cX5_empty : ByteArray := prog_7_method_2_code
def yX5_empty : MethodName := ⟨RX5, "empty", "()V"⟩
abbrev cX5_take : ByteArray := prog_7_method_3_code
def yX5_take : MethodName := ⟨RX5, "take", "(LTariffDesk$Tariff;)I"⟩
abbrev cX5_takeBack : ByteArray := prog_7_method_4_code
def yX5_takeBack : MethodName := ⟨RX5, "takeBack", "()V"⟩
abbrev cX5_standingAt : ByteArray := prog_7_method_5_code
def yX5_standingAt : MethodName := ⟨RX5, "standingAt", "(I)I"⟩
abbrev cX5_nodesOf : ByteArray := prog_7_method_6_code
def yX5_nodesOf : MethodName := ⟨RX5, "nodesOf", "(II)I"⟩
abbrev cX5_lowestFor : ByteArray := prog_7_method_7_code
def yX5_lowestFor : MethodName := ⟨RX5, "lowestFor", "(I)I"⟩
abbrev cX5_firstOf : ByteArray := prog_7_method_8_code
def yX5_firstOf : MethodName := ⟨RX5, "firstOf", "(I)I"⟩
abbrev cX5_lastOf : ByteArray := prog_7_method_9_code
def yX5_lastOf : MethodName := ⟨RX5, "lastOf", "(I)I"⟩
abbrev cX5_middleOf : ByteArray := prog_7_method_10_code
def yX5_middleOf : MethodName := ⟨RX5, "middleOf", "(I)I"⟩
abbrev cX5_sizeOf : ByteArray := prog_7_method_11_code
def yX5_sizeOf : MethodName := ⟨RX5, "sizeOf", "(I)I"⟩
abbrev cX5_widestNode : ByteArray := prog_7_method_12_code
def yX5_widestNode : MethodName := ⟨RX5, "widestNode", "(II)I"⟩
abbrev cX5_push : ByteArray := prog_7_method_13_code
def yX5_push : MethodName := ⟨RX5, "push", "(II)V"⟩
abbrev cX5_halfFor : ByteArray := prog_7_method_14_code
def yX5_halfFor : MethodName := ⟨RX5, "halfFor", "(III)I"⟩
abbrev cX5_put : ByteArray := prog_7_method_15_code
def yX5_put : MethodName := ⟨RX5, "put", "(II)V"⟩
abbrev cX5_putBack : ByteArray := prog_7_method_16_code
def yX5_putBack : MethodName := ⟨RX5, "putBack", "(I)V"⟩
abbrev cX5_isLogPlace : ByteArray := prog_7_method_17_code
def yX5_isLogPlace : MethodName := ⟨RX5, "isLogPlace", "(I)Z"⟩
abbrev cX5_lowerBy : ByteArray := prog_7_method_18_code
def yX5_lowerBy : MethodName := ⟨RX5, "lowerBy", "(ILTariffDesk$Tariff;)V"⟩
abbrev cX5_bestAbove : ByteArray := prog_7_method_19_code
def yX5_bestAbove : MethodName := ⟨RX5, "bestAbove", "(I)I"⟩
def RX6 : String := "TariffDesk"
def TX6 : u_T := fun k => match k with
  | 0 => ("TariffDesk", "page", "LTariffDesk$Page;", true)
  | 1 => ("TariffDesk", "tariffs", "LTariffDesk$Tariffs;", true)
  | 2 => ("TariffDesk", "tree", "LTariffDesk$Tree;", true)
  | 3 => ("TariffDesk", "seen", "LTariffDesk$Seen;", true)
  | 4 => ("TariffDesk", "draws", "LTariffDesk$Draws;", true)
  | 5 => ("TariffDesk", "asked", "LTariffDesk$Tariff;", true)
  | 6 => ("TariffDesk", "keptTariffs", "LTariffDesk$Tariffs;", true)
  | 7 => ("TariffDesk", "keptSeen", "LTariffDesk$Seen;", true)
  | 8 => ("TariffDesk", "hasDesk", "Z", false)
  | 9 => ("TariffDesk", "hasImage", "Z", false)
  | _ => ("TariffDesk", "desksRead", "I", false)
def tyX6 : Nat → FieldType := fun k => match k with
  | 0 => .object "TariffDesk$Page"
  | 1 => .object "TariffDesk$Tariffs"
  | 2 => .object "TariffDesk$Tree"
  | 3 => .object "TariffDesk$Seen"
  | 4 => .object "TariffDesk$Draws"
  | 5 => .object "TariffDesk$Tariff"
  | 6 => .object "TariffDesk$Tariffs"
  | 7 => .object "TariffDesk$Seen"
  | 8 => .boolean
  | 9 => .boolean
  | _ => .int
abbrev wsX60 : List Cond := u_ws RX6 TX6 11
theorem nmX6 : ∀ a, a < 11 → ∀ b, b < 11 → a ≠ b → (TX6 a).2.1 ≠ (TX6 b).2.1 := by decide +kernel
theorem tyX6_ok : ∀ k, k < 11 → parseFieldDescriptor (TX6 k).2.2.1 = some (tyX6 k) := by decide +kernel
abbrev cX6_init : ByteArray := prog_1_method_1_code
def yX6_init : MethodName := ⟨RX6, "<init>", "()V"⟩
abbrev cX6_letter : ByteArray := prog_1_method_2_code
def yX6_letter : MethodName := ⟨RX6, "letter", "(I)I"⟩
abbrev cX6_blank : ByteArray := prog_1_method_3_code
def yX6_blank : MethodName := ⟨RX6, "blank", "()I"⟩
abbrev cX6_fault : ByteArray := prog_1_method_4_code
def yX6_fault : MethodName := ⟨RX6, "fault", "()I"⟩
abbrev cX6_desk : ByteArray := prog_1_method_5_code
def yX6_desk : MethodName := ⟨RX6, "desk", "()I"⟩
abbrev cX6_tariff : ByteArray := prog_1_method_6_code
def yX6_tariff : MethodName := ⟨RX6, "tariff", "(II)I"⟩
abbrev cX6_as : ByteArray := prog_1_method_7_code
def yX6_as : MethodName := ⟨RX6, "as", "(II)I"⟩
abbrev cX6_price : ByteArray := prog_1_method_8_code
def yX6_price : MethodName := ⟨RX6, "price", "(II)J"⟩
abbrev cX6_node : ByteArray := prog_1_method_9_code
def yX6_node : MethodName := ⟨RX6, "node", "(II)I"⟩
abbrev cX6_offer : ByteArray := prog_1_method_10_code
def yX6_offer : MethodName := ⟨RX6, "offer", "(IIII)I"⟩
abbrev cX6_undo : ByteArray := prog_1_method_11_code
def yX6_undo : MethodName := ⟨RX6, "undo", "()I"⟩
abbrev cX6_cheapest : ByteArray := prog_1_method_12_code
def yX6_cheapest : MethodName := ⟨RX6, "cheapest", "(I)I"⟩
abbrev cX6_cost : ByteArray := prog_1_method_13_code
def yX6_cost : MethodName := ⟨RX6, "cost", "(I)J"⟩
abbrev cX6_piece : ByteArray := prog_1_method_14_code
def yX6_piece : MethodName := ⟨RX6, "piece", "(II)I"⟩
abbrev cX6_bargain : ByteArray := prog_1_method_15_code
def yX6_bargain : MethodName := ⟨RX6, "bargain", "(II)I"⟩
abbrev cX6_crossing : ByteArray := prog_1_method_16_code
def yX6_crossing : MethodName := ⟨RX6, "crossing", "(II)I"⟩
abbrev cX6_would : ByteArray := prog_1_method_17_code
def yX6_would : MethodName := ⟨RX6, "would", "(IIII)I"⟩
abbrev cX6_see : ByteArray := prog_1_method_18_code
def yX6_see : MethodName := ⟨RX6, "see", "(III)I"⟩
abbrev cX6_forget : ByteArray := prog_1_method_19_code
def yX6_forget : MethodName := ⟨RX6, "forget", "()I"⟩
abbrev cX6_drawn : ByteArray := prog_1_method_20_code
def yX6_drawn : MethodName := ⟨RX6, "drawn", "(III)I"⟩
abbrev cX6_image : ByteArray := prog_1_method_21_code
def yX6_image : MethodName := ⟨RX6, "image", "()I"⟩
abbrev cX6_restore : ByteArray := prog_1_method_22_code
def yX6_restore : MethodName := ⟨RX6, "restore", "()I"⟩
abbrev cX6_count : ByteArray := prog_1_method_23_code
def yX6_count : MethodName := ⟨RX6, "count", "(I)I"⟩
abbrev cX6_digest : ByteArray := prog_1_method_24_code
def yX6_digest : MethodName := ⟨RX6, "digest", "()J"⟩
abbrev cX6_mixedWithTree : ByteArray := prog_1_method_25_code
def yX6_mixedWithTree : MethodName := ⟨RX6, "mixedWithTree", "(J)J"⟩
abbrev cX6_mixed : ByteArray := prog_1_method_26_code
def yX6_mixed : MethodName := ⟨RX6, "mixed", "(JJ)J"⟩
abbrev cX6_isQuantity : ByteArray := prog_1_method_27_code
def yX6_isQuantity : MethodName := ⟨RX6, "isQuantity", "(I)Z"⟩
abbrev cX6_isKind : ByteArray := prog_1_method_28_code
def yX6_isKind : MethodName := ⟨RX6, "isKind", "(I)Z"⟩
abbrev cX6_refusalOf : ByteArray := prog_1_method_29_code
def yX6_refusalOf : MethodName := ⟨RX6, "refusalOf", "(IIII)I"⟩
abbrev cX6_quantitiesOf : ByteArray := prog_1_method_30_code
def yX6_quantitiesOf : MethodName := ⟨RX6, "quantitiesOf", "(II)I"⟩
abbrev cX6_tariffsNeverLowest : ByteArray := prog_1_method_31_code
def yX6_tariffsNeverLowest : MethodName := ⟨RX6, "tariffsNeverLowest", "()I"⟩
abbrev cX6_beginsPiece : ByteArray := prog_1_method_32_code
def yX6_beginsPiece : MethodName := ⟨RX6, "beginsPiece", "(I)Z"⟩
abbrev cX6_pieces : ByteArray := prog_1_method_33_code
def yX6_pieces : MethodName := ⟨RX6, "pieces", "()I"⟩
abbrev cX6_firstOfPiece : ByteArray := prog_1_method_34_code
def yX6_firstOfPiece : MethodName := ⟨RX6, "firstOfPiece", "(I)I"⟩
abbrev cX6_lastOfPiece : ByteArray := prog_1_method_35_code
def yX6_lastOfPiece : MethodName := ⟨RX6, "lastOfPiece", "(I)I"⟩
def RX7 : String := "TariffDeskModel"
def TX7 : u_T := fun k => match k with
  | 0 => ("TariffDeskModel", "desks", "I", false)
  | 1 => ("TariffDeskModel", "tariffs", "I", false)
  | 2 => ("TariffDeskModel", "kindOf", "[I", true)
  | 3 => ("TariffDeskModel", "rateOf", "[I", true)
  | 4 => ("TariffDeskModel", "baseOf", "[I", true)
  | 5 => ("TariffDeskModel", "firstOf", "[I", true)
  | 6 => ("TariffDeskModel", "lastOf", "[I", true)
  | 7 => ("TariffDeskModel", "stands", "[I", true)
  | 8 => ("TariffDeskModel", "seen", "I", false)
  | 9 => ("TariffDeskModel", "seenTariff", "[I", true)
  | 10 => ("TariffDeskModel", "seenQuantity", "[I", true)
  | 11 => ("TariffDeskModel", "seenPrice", "[I", true)
  | 12 => ("TariffDeskModel", "pageLength", "I", false)
  | 13 => ("TariffDeskModel", "page", "[B", true)
  | 14 => ("TariffDeskModel", "isWhole", "Z", false)
  | 15 => ("TariffDeskModel", "newTariffs", "I", false)
  | 16 => ("TariffDeskModel", "before", "[I", true)
  | 17 => ("TariffDeskModel", "seedNow", "J", false)
  | 18 => ("TariffDeskModel", "isKept", "Z", false)
  | 19 => ("TariffDeskModel", "keptDesk", "I", false)
  | 20 => ("TariffDeskModel", "keptTariffs", "I", false)
  | 21 => ("TariffDeskModel", "keptSeen", "I", false)
  | 22 => ("TariffDeskModel", "keptKind", "[I", true)
  | 23 => ("TariffDeskModel", "keptRate", "[I", true)
  | 24 => ("TariffDeskModel", "keptBase", "[I", true)
  | 25 => ("TariffDeskModel", "keptFirst", "[I", true)
  | 26 => ("TariffDeskModel", "keptLast", "[I", true)
  | 27 => ("TariffDeskModel", "keptTariff", "[I", true)
  | 28 => ("TariffDeskModel", "keptQuantity", "[I", true)
  | 29 => ("TariffDeskModel", "keptPrice", "[I", true)
  | _ => ("TariffDeskModel", "h", "J", false)
def tyX7 : Nat → FieldType := fun k => match k with
  | 0 => .int
  | 1 => .int
  | 2 => .array .int
  | 3 => .array .int
  | 4 => .array .int
  | 5 => .array .int
  | 6 => .array .int
  | 7 => .array .int
  | 8 => .int
  | 9 => .array .int
  | 10 => .array .int
  | 11 => .array .int
  | 12 => .int
  | 13 => .array .byte
  | 14 => .boolean
  | 15 => .int
  | 16 => .array .int
  | 17 => .long
  | 18 => .boolean
  | 19 => .int
  | 20 => .int
  | 21 => .int
  | 22 => .array .int
  | 23 => .array .int
  | 24 => .array .int
  | 25 => .array .int
  | 26 => .array .int
  | 27 => .array .int
  | 28 => .array .int
  | 29 => .array .int
  | _ => .long
abbrev wsX70 : List Cond := u_ws RX7 TX7 31
theorem nmX7 : ∀ a, a < 31 → ∀ b, b < 31 → a ≠ b → (TX7 a).2.1 ≠ (TX7 b).2.1 := by decide +kernel
theorem tyX7_ok : ∀ k, k < 31 → parseFieldDescriptor (TX7 k).2.2.1 = some (tyX7 k) := by decide +kernel
abbrev cX7_init : ByteArray := prog_9_method_1_code
def yX7_init : MethodName := ⟨RX7, "<init>", "()V"⟩
abbrev cX7_within : ByteArray := prog_9_method_3_code
def yX7_within : MethodName := ⟨RX7, "within", "(III)Z"⟩
abbrev cX7_isIn : ByteArray := prog_9_method_4_code
def yX7_isIn : MethodName := ⟨RX7, "isIn", "(II)Z"⟩
abbrev cX7_letter : ByteArray := prog_9_method_5_code
def yX7_letter : MethodName := ⟨RX7, "letter", "(I)I"⟩
abbrev cX7_blank : ByteArray := prog_9_method_6_code
def yX7_blank : MethodName := ⟨RX7, "blank", "()I"⟩
abbrev cX7_kindBy : ByteArray := prog_9_method_7_code
def yX7_kindBy : MethodName := ⟨RX7, "kindBy", "(I)I"⟩
abbrev cX7_at : ByteArray := prog_9_method_8_code
def yX7_at : MethodName := ⟨RX7, "at", "(I)I"⟩
abbrev cX7_figure : ByteArray := prog_9_method_9_code
def yX7_figure : MethodName := ⟨RX7, "figure", "(I)I"⟩
abbrev cX7_isSign : ByteArray := prog_9_method_10_code
def yX7_isSign : MethodName := ⟨RX7, "isSign", "(I)Z"⟩
abbrev cX7_isLetter : ByteArray := prog_9_method_11_code
def yX7_isLetter : MethodName := ⟨RX7, "isLetter", "(II)Z"⟩
abbrev cX7_readTariff : ByteArray := prog_9_method_12_code
def yX7_readTariff : MethodName := ⟨RX7, "readTariff", "(I)I"⟩
abbrev cX7_read : ByteArray := prog_9_method_13_code
def yX7_read : MethodName := ⟨RX7, "read", "()I"⟩
abbrev cX7_fault : ByteArray := prog_9_method_14_code
def yX7_fault : MethodName := ⟨RX7, "fault", "()I"⟩
abbrev cX7_signed : ByteArray := prog_9_method_15_code
def yX7_signed : MethodName := ⟨RX7, "signed", "(II)I"⟩
abbrev cX7_desk : ByteArray := prog_9_method_16_code
def yX7_desk : MethodName := ⟨RX7, "desk", "()I"⟩
abbrev cX7_isTariff : ByteArray := prog_9_method_17_code
def yX7_isTariff : MethodName := ⟨RX7, "isTariff", "(I)Z"⟩
abbrev cX7_often : ByteArray := prog_9_method_18_code
def yX7_often : MethodName := ⟨RX7, "often", "(III)J"⟩
abbrev cX7_asBase : ByteArray := prog_9_method_19_code
def yX7_asBase : MethodName := ⟨RX7, "asBase", "(II)J"⟩
abbrev cX7_priceBy : ByteArray := prog_9_method_20_code
def yX7_priceBy : MethodName := ⟨RX7, "priceBy", "(IIIII)J"⟩
abbrev cX7_priceOf : ByteArray := prog_9_method_21_code
def yX7_priceOf : MethodName := ⟨RX7, "priceOf", "(II)J"⟩
abbrev cX7_isGreat : ByteArray := prog_9_method_22_code
def yX7_isGreat : MethodName := ⟨RX7, "isGreat", "(J)Z"⟩
abbrev cX7_isTooGreat : ByteArray := prog_9_method_23_code
def yX7_isTooGreat : MethodName := ⟨RX7, "isTooGreat", "(IIIII)Z"⟩
abbrev cX7_isBetter : ByteArray := prog_9_method_24_code
def yX7_isBetter : MethodName := ⟨RX7, "isBetter", "(III)Z"⟩
abbrev cX7_has : ByteArray := prog_9_method_25_code
def yX7_has : MethodName := ⟨RX7, "has", "(II)Z"⟩
abbrev cX7_lengthOf : ByteArray := prog_9_method_26_code
def yX7_lengthOf : MethodName := ⟨RX7, "lengthOf", "(I)I"⟩
abbrev cX7_firstAt : ByteArray := prog_9_method_27_code
def yX7_firstAt : MethodName := ⟨RX7, "firstAt", "(I)I"⟩
abbrev cX7_lastAt : ByteArray := prog_9_method_28_code
def yX7_lastAt : MethodName := ⟨RX7, "lastAt", "(I)I"⟩
abbrev cX7_middleAt : ByteArray := prog_9_method_29_code
def yX7_middleAt : MethodName := ⟨RX7, "middleAt", "(I)I"⟩
abbrev cX7_push : ByteArray := prog_9_method_30_code
def yX7_push : MethodName := ⟨RX7, "push", "(II)V"⟩
abbrev cX7_isAll : ByteArray := prog_9_method_31_code
def yX7_isAll : MethodName := ⟨RX7, "isAll", "(II)Z"⟩
abbrev cX7_offerNow : ByteArray := prog_9_method_32_code
def yX7_offerNow : MethodName := ⟨RX7, "offerNow", "(I)V"⟩
abbrev cX7_take : ByteArray := prog_9_method_33_code
def yX7_take : MethodName := ⟨RX7, "take", "(IIIII)V"⟩
abbrev cX7_again : ByteArray := prog_9_method_34_code
def yX7_again : MethodName := ⟨RX7, "again", "(I)V"⟩
abbrev cX7_cheapestFor : ByteArray := prog_9_method_35_code
def yX7_cheapestFor : MethodName := ⟨RX7, "cheapestFor", "(I)I"⟩
abbrev cX7_nodesOf : ByteArray := prog_9_method_36_code
def yX7_nodesOf : MethodName := ⟨RX7, "nodesOf", "(I)I"⟩
abbrev cX7_quantitiesOf : ByteArray := prog_9_method_37_code
def yX7_quantitiesOf : MethodName := ⟨RX7, "quantitiesOf", "(I)I"⟩
abbrev cX7_tariffNow : ByteArray := prog_9_method_38_code
def yX7_tariffNow : MethodName := ⟨RX7, "tariffNow", "(II)I"⟩
abbrev cX7_tariff : ByteArray := prog_9_method_39_code
def yX7_tariff : MethodName := ⟨RX7, "tariff", "(II)I"⟩
abbrev cX7_as : ByteArray := prog_9_method_40_code
def yX7_as : MethodName := ⟨RX7, "as", "(II)I"⟩
abbrev cX7_isQuantity : ByteArray := prog_9_method_41_code
def yX7_isQuantity : MethodName := ⟨RX7, "isQuantity", "(I)Z"⟩
abbrev cX7_price : ByteArray := prog_9_method_42_code
def yX7_price : MethodName := ⟨RX7, "price", "(II)J"⟩
abbrev cX7_nodeNow : ByteArray := prog_9_method_43_code
def yX7_nodeNow : MethodName := ⟨RX7, "nodeNow", "(II)I"⟩
abbrev cX7_node : ByteArray := prog_9_method_44_code
def yX7_node : MethodName := ⟨RX7, "node", "(II)I"⟩
abbrev cX7_isSpan : ByteArray := prog_9_method_45_code
def yX7_isSpan : MethodName := ⟨RX7, "isSpan", "(I)Z"⟩
abbrev cX7_refused : ByteArray := prog_9_method_46_code
def yX7_refused : MethodName := ⟨RX7, "refused", "(IIII)I"⟩
abbrev cX7_layBefore : ByteArray := prog_9_method_47_code
def yX7_layBefore : MethodName := ⟨RX7, "layBefore", "()V"⟩
abbrev cX7_offer : ByteArray := prog_9_method_48_code
def yX7_offer : MethodName := ⟨RX7, "offer", "(IIII)I"⟩
abbrev cX7_undo : ByteArray := prog_9_method_49_code
def yX7_undo : MethodName := ⟨RX7, "undo", "()I"⟩
abbrev cX7_cheapest : ByteArray := prog_9_method_50_code
def yX7_cheapest : MethodName := ⟨RX7, "cheapest", "(I)I"⟩
abbrev cX7_costFor : ByteArray := prog_9_method_51_code
def yX7_costFor : MethodName := ⟨RX7, "costFor", "(I)J"⟩
abbrev cX7_cost : ByteArray := prog_9_method_52_code
def yX7_cost : MethodName := ⟨RX7, "cost", "(I)J"⟩
abbrev cX7_isFirstOfPiece : ByteArray := prog_9_method_53_code
def yX7_isFirstOfPiece : MethodName := ⟨RX7, "isFirstOfPiece", "(I)Z"⟩
abbrev cX7_pieces : ByteArray := prog_9_method_54_code
def yX7_pieces : MethodName := ⟨RX7, "pieces", "()I"⟩
abbrev cX7_pieceNow : ByteArray := prog_9_method_55_code
def yX7_pieceNow : MethodName := ⟨RX7, "pieceNow", "(II)I"⟩
abbrev cX7_piece : ByteArray := prog_9_method_56_code
def yX7_piece : MethodName := ⟨RX7, "piece", "(II)I"⟩
abbrev cX7_bargainIn : ByteArray := prog_9_method_57_code
def yX7_bargainIn : MethodName := ⟨RX7, "bargainIn", "(II)I"⟩
abbrev cX7_bargain : ByteArray := prog_9_method_58_code
def yX7_bargain : MethodName := ⟨RX7, "bargain", "(II)I"⟩
abbrev cX7_crossingOf : ByteArray := prog_9_method_59_code
def yX7_crossingOf : MethodName := ⟨RX7, "crossingOf", "(II)I"⟩
abbrev cX7_crossing : ByteArray := prog_9_method_60_code
def yX7_crossing : MethodName := ⟨RX7, "crossing", "(II)I"⟩
abbrev cX7_would : ByteArray := prog_9_method_61_code
def yX7_would : MethodName := ⟨RX7, "would", "(IIII)I"⟩
abbrev cX7_see : ByteArray := prog_9_method_62_code
def yX7_see : MethodName := ⟨RX7, "see", "(III)I"⟩
abbrev cX7_forget : ByteArray := prog_9_method_63_code
def yX7_forget : MethodName := ⟨RX7, "forget", "()I"⟩
abbrev cX7_asKind : ByteArray := prog_9_method_64_code
def yX7_asKind : MethodName := ⟨RX7, "asKind", "(III)J"⟩
abbrev cX7_sortsOf : ByteArray := prog_9_method_65_code
def yX7_sortsOf : MethodName := ⟨RX7, "sortsOf", "(I)I"⟩
abbrev cX7_worstBy : ByteArray := prog_9_method_66_code
def yX7_worstBy : MethodName := ⟨RX7, "worstBy", "(III)I"⟩
abbrev cX7_askOf : ByteArray := prog_9_method_67_code
def yX7_askOf : MethodName := ⟨RX7, "askOf", "(I)I"⟩
abbrev cX7_draw : ByteArray := prog_9_method_68_code
def yX7_draw : MethodName := ⟨RX7, "draw", "(I)I"⟩
abbrev cX7_drawOne : ByteArray := prog_9_method_69_code
def yX7_drawOne : MethodName := ⟨RX7, "drawOne", "()V"⟩
abbrev cX7_drawnNow : ByteArray := prog_9_method_70_code
def yX7_drawnNow : MethodName := ⟨RX7, "drawnNow", "(III)I"⟩
abbrev cX7_drawn : ByteArray := prog_9_method_71_code
def yX7_drawn : MethodName := ⟨RX7, "drawn", "(III)I"⟩
abbrev cX7_image : ByteArray := prog_9_method_72_code
def yX7_image : MethodName := ⟨RX7, "image", "()I"⟩
abbrev cX7_restore : ByteArray := prog_9_method_73_code
def yX7_restore : MethodName := ⟨RX7, "restore", "()I"⟩
abbrev cX7_gaps : ByteArray := prog_9_method_74_code
def yX7_gaps : MethodName := ⟨RX7, "gaps", "()I"⟩
abbrev cX7_idle : ByteArray := prog_9_method_75_code
def yX7_idle : MethodName := ⟨RX7, "idle", "()I"⟩
abbrev cX7_howMany : ByteArray := prog_9_method_76_code
def yX7_howMany : MethodName := ⟨RX7, "howMany", "(I)I"⟩
abbrev cX7_count : ByteArray := prog_9_method_77_code
def yX7_count : MethodName := ⟨RX7, "count", "(I)I"⟩
abbrev cX7_mix : ByteArray := prog_9_method_78_code
def yX7_mix : MethodName := ⟨RX7, "mix", "(J)V"⟩
abbrev cX7_mixDesk : ByteArray := prog_9_method_79_code
def yX7_mixDesk : MethodName := ⟨RX7, "mixDesk", "()V"⟩
abbrev cX7_digest : ByteArray := prog_9_method_80_code
def yX7_digest : MethodName := ⟨RX7, "digest", "()J"⟩
def RJ11 : String := "java/lang/Character"
def TJ11 : u_T := fun k => match k with
  | _ => ("", "", "", false)
def tyJ11 : Nat → FieldType := fun k => match k with
  | _ => .int
abbrev wsJ110 : List Cond := u_ws RJ11 TJ11 0
theorem nmJ11 : ∀ a, a < 0 → ∀ b, b < 0 → a ≠ b → (TJ11 a).2.1 ≠ (TJ11 b).2.1 := by decide +kernel
theorem tyJ11_ok : ∀ k, k < 0 → parseFieldDescriptor (TJ11 k).2.2.1 = some (tyJ11 k) := by decide +kernel
abbrev cJ11_isValidCodePoint_9a6ad : ByteArray := prog_10_method_11_code
def yJ11_isValidCodePoint_9a6ad : MethodName := ⟨RJ11, "isValidCodePoint", "(I)Z"⟩
abbrev cJ11_highSurrogate_5068e : ByteArray := prog_10_method_28_code
def yJ11_highSurrogate_5068e : MethodName := ⟨RJ11, "highSurrogate", "(I)C"⟩
abbrev cJ11_lowSurrogate_5068e : ByteArray := prog_10_method_29_code
def yJ11_lowSurrogate_5068e : MethodName := ⟨RJ11, "lowSurrogate", "(I)C"⟩
def RJ9 : String := "java/lang/Math"
def TJ9 : u_T := fun k => match k with
  | _ => ("", "", "", false)
def tyJ9 : Nat → FieldType := fun k => match k with
  | _ => .int
abbrev wsJ90 : List Cond := u_ws RJ9 TJ9 0
theorem nmJ9 : ∀ a, a < 0 → ∀ b, b < 0 → a ≠ b → (TJ9 a).2.1 ≠ (TJ9 b).2.1 := by decide +kernel
theorem tyJ9_ok : ∀ k, k < 0 → parseFieldDescriptor (TJ9 k).2.2.1 = some (tyJ9 k) := by decide +kernel
abbrev cJ9_floorDiv_7cf53 : ByteArray := prog_11_method_47_code
def yJ9_floorDiv_7cf53 : MethodName := ⟨RJ9, "floorDiv", "(II)I"⟩
abbrev cJ9_max_7cf53 : ByteArray := prog_11_method_65_code
def yJ9_max_7cf53 : MethodName := ⟨RJ9, "max", "(II)I"⟩
abbrev cJ9_min_7cf53 : ByteArray := prog_11_method_69_code
def yJ9_min_7cf53 : MethodName := ⟨RJ9, "min", "(II)I"⟩
def RJ0 : String := "java/lang/String"
def TJ0 : u_T := fun k => match k with
  | _ => ("", "", "", false)
def tyJ0 : Nat → FieldType := fun k => match k with
  | _ => .int
abbrev wsJ00 : List Cond := u_ws RJ0 TJ0 0
theorem nmJ0 : ∀ a, a < 0 → ∀ b, b < 0 → a ≠ b → (TJ0 a).2.1 ≠ (TJ0 b).2.1 := by decide +kernel
theorem tyJ0_ok : ∀ k, k < 0 → parseFieldDescriptor (TJ0 k).2.2.1 = some (tyJ0 k) := by decide +kernel
abbrev cJ0_length_8abf5 : ByteArray := prog_12_method_54_code
def yJ0_length_8abf5 : MethodName := ⟨RJ0, "length", "()I"⟩
abbrev cJ0_indexOf_0f7a4 : ByteArray := prog_12_method_79_code
def yJ0_indexOf_0f7a4 : MethodName := ⟨RJ0, "indexOf", "(I)I"⟩
abbrev cJ0_indexOf_7cf53 : ByteArray := prog_12_method_80_code
def yJ0_indexOf_7cf53 : MethodName := ⟨RJ0, "indexOf", "(II)I"⟩
abbrev cJ0_coder_7d493 : ByteArray := prog_12_method_152_code
def yJ0_coder_7d493 : MethodName := ⟨RJ0, "coder", "()B"⟩
abbrev cJ0_isLatin1_aae02 : ByteArray := prog_12_method_154_code
def yJ0_isLatin1_aae02 : MethodName := ⟨RJ0, "isLatin1", "()Z"⟩
abbrev cJ0_checkBoundsBeginEnd_23922 : ByteArray := prog_12_method_158_code
def yJ0_checkBoundsBeginEnd_23922 : MethodName := ⟨RJ0, "checkBoundsBeginEnd", "(III)V"⟩
def RJ1 : String := "java/lang/StringLatin1"
def TJ1 : u_T := fun k => match k with
  | _ => ("", "", "", false)
def tyJ1 : Nat → FieldType := fun k => match k with
  | _ => .int
abbrev wsJ10 : List Cond := u_ws RJ1 TJ1 0
theorem nmJ1 : ∀ a, a < 0 → ∀ b, b < 0 → a ≠ b → (TJ1 a).2.1 ≠ (TJ1 b).2.1 := by decide +kernel
theorem tyJ1_ok : ∀ k, k < 0 → parseFieldDescriptor (TJ1 k).2.2.1 = some (tyJ1 k) := by decide +kernel
abbrev cJ1_canEncode_9a6ad : ByteArray := prog_13_method_4_code
def yJ1_canEncode_9a6ad : MethodName := ⟨RJ1, "canEncode", "(I)Z"⟩
abbrev cJ1_indexOf_4cfef : ByteArray := prog_13_method_22_code
def yJ1_indexOf_4cfef : MethodName := ⟨RJ1, "indexOf", "([BIII)I"⟩
abbrev cJ1_indexOfChar_4cfef : ByteArray := prog_13_method_23_code
def yJ1_indexOfChar_4cfef : MethodName := ⟨RJ1, "indexOfChar", "([BIII)I"⟩
def RJ2 : String := "java/lang/StringUTF16"
def TJ2 : u_T := fun k => match k with
  | _ => ("", "", "", false)
def tyJ2 : Nat → FieldType := fun k => match k with
  | _ => .int
abbrev wsJ20 : List Cond := u_ws RJ2 TJ2 0
theorem nmJ2 : ∀ a, a < 0 → ∀ b, b < 0 → a ≠ b → (TJ2 a).2.1 ≠ (TJ2 b).2.1 := by decide +kernel
theorem tyJ2_ok : ∀ k, k < 0 → parseFieldDescriptor (TJ2 k).2.2.1 = some (tyJ2 k) := by decide +kernel
abbrev cJ2_getChar_3b067 : ByteArray := prog_14_method_5_code
def yJ2_getChar_3b067 : MethodName := ⟨RJ2, "getChar", "([BI)C"⟩
abbrev cJ2_length_9d52b : ByteArray := prog_14_method_6_code
def yJ2_length_9d52b : MethodName := ⟨RJ2, "length", "([B)I"⟩
abbrev cJ2_indexOf_4cfef : ByteArray := prog_14_method_40_code
def yJ2_indexOf_4cfef : MethodName := ⟨RJ2, "indexOf", "([BIII)I"⟩
abbrev cJ2_indexOfChar_4cfef : ByteArray := prog_14_method_47_code
def yJ2_indexOfChar_4cfef : MethodName := ⟨RJ2, "indexOfChar", "([BIII)I"⟩
abbrev cJ2_indexOfCharUnsafe_4cfef : ByteArray := prog_14_method_48_code
def yJ2_indexOfCharUnsafe_4cfef : MethodName := ⟨RJ2, "indexOfCharUnsafe", "([BIII)I"⟩
abbrev cJ2_indexOfSupplementary_4cfef : ByteArray := prog_14_method_49_code
def yJ2_indexOfSupplementary_4cfef : MethodName := ⟨RJ2, "indexOfSupplementary", "([BIII)I"⟩
abbrev cJ2_checkBoundsBeginEnd_d044e : ByteArray := prog_14_method_93_code
def yJ2_checkBoundsBeginEnd_d044e : MethodName := ⟨RJ2, "checkBoundsBeginEnd", "(II[B)V"⟩
def RJ7 : String := "java/util/Arrays"
def TJ7 : u_T := fun k => match k with
  | _ => ("", "", "", false)
def tyJ7 : Nat → FieldType := fun k => match k with
  | _ => .int
abbrev wsJ70 : List Cond := u_ws RJ7 TJ7 0
theorem nmJ7 : ∀ a, a < 0 → ∀ b, b < 0 → a ≠ b → (TJ7 a).2.1 ≠ (TJ7 b).2.1 := by decide +kernel
theorem tyJ7_ok : ∀ k, k < 0 → parseFieldDescriptor (TJ7 k).2.2.1 = some (tyJ7 k) := by decide +kernel
abbrev cJ7_fill_53178 : ByteArray := prog_15_method_103_code
def yJ7_fill_53178 : MethodName := ⟨RJ7, "fill", "([II)V"⟩
def RJ3 : String := "jdk/internal/util/Preconditions"
def TJ3 : u_T := fun k => match k with
  | _ => ("", "", "", false)
def tyJ3 : Nat → FieldType := fun k => match k with
  | _ => .int
abbrev wsJ30 : List Cond := u_ws RJ3 TJ3 0
theorem nmJ3 : ∀ a, a < 0 → ∀ b, b < 0 → a ≠ b → (TJ3 a).2.1 ≠ (TJ3 b).2.1 := by decide +kernel
theorem tyJ3_ok : ∀ k, k < 0 → parseFieldDescriptor (TJ3 k).2.2.1 = some (tyJ3 k) := by decide +kernel
abbrev cJ3_checkFromToIndex_8c36e : ByteArray := prog_16_method_12_code
def yJ3_checkFromToIndex_8c36e : MethodName := ⟨RJ3, "checkFromToIndex", "(IIILjava/util/function/BiFunction;)I"⟩
def RL : String := "TariffDeskLaw"
abbrev cL_law : ByteArray := code
def yL_law : MethodName := ⟨RL, "law", "([I)Z"⟩
def wsL_law_r1 : List Cond := [Cond.classLink RL 7 RX6, Cond.instantiable RX6 11, Cond.initialized RX6, Cond.classLink RL 10 RX7, Cond.instantiable RX7 31, Cond.initialized RX7, Cond.methodLink RL 9 yX6_init, Cond.instanceMethod yX6_init, Cond.code yX6_init cX6_init 1 none, Cond.methodLink RX6 1 objectInit, Cond.instanceMethod objectInit, Cond.code objectInit ⟨#[0xb1]⟩ 1 none, Cond.classLink RX6 7 RX1, Cond.instantiable RX1 2, Cond.initialized RX1, Cond.fieldLink RX6 10 "TariffDesk" "page" "LTariffDesk$Page;", Cond.classLink RX6 16 RX4, Cond.instantiable RX4 2, Cond.initialized RX4, Cond.fieldLink RX6 21 "TariffDesk" "tariffs" "LTariffDesk$Tariffs;", Cond.classLink RX6 25 RX5, Cond.instantiable RX5 7, Cond.initialized RX5, Cond.fieldLink RX6 30 "TariffDesk" "tree" "LTariffDesk$Tree;"]
def wsL_law_r2 : List Cond := [Cond.classLink RX6 34 RX2, Cond.instantiable RX2 5, Cond.initialized RX2, Cond.fieldLink RX6 37 "TariffDesk" "seen" "LTariffDesk$Seen;", Cond.classLink RX6 41 RX0, Cond.instantiable RX0 1, Cond.initialized RX0, Cond.fieldLink RX6 44 "TariffDesk" "draws" "LTariffDesk$Draws;", Cond.classLink RX6 48 RX3, Cond.instantiable RX3 5, Cond.initialized RX3, Cond.fieldLink RX6 51 "TariffDesk" "asked" "LTariffDesk$Tariff;", Cond.fieldLink RX6 55 "TariffDesk" "keptTariffs" "LTariffDesk$Tariffs;", Cond.fieldLink RX6 58 "TariffDesk" "keptSeen" "LTariffDesk$Seen;", Cond.instanceMethod yX1_init, Cond.code yX1_init cX1_init 1 none, Cond.methodLink RX1 5 objectInit, Cond.arrayClass .int, Cond.fieldLink RX1 11 "TariffDesk$Page" "letters" "[I", Cond.methodLink RX6 18 yX4_init, Cond.instanceMethod yX4_init, Cond.code yX4_init cX4_init 3 none, Cond.methodLink RX4 1 objectInit, Cond.methodLink RX4 7 Lib.Math.max.name]
def wsL_law_r3 : List Cond := [Cond.static Lib.Math.max.name, Cond.initialized "java/lang/Math", Cond.code Lib.Math.max.name Lib.Math.max.code 2 (some .int), Cond.classLink RX4 13 RX3, Cond.fieldLink RX4 15 "TariffDesk$Tariffs" "rows" "[LTariffDesk$Tariff;", Cond.instanceMethod yX3_init, Cond.code yX3_init cX3_init 1 none, Cond.methodLink RX3 3 objectInit, Cond.methodLink RX6 27 yX5_init, Cond.instanceMethod yX5_init, Cond.code yX5_init cX5_init 2 none, Cond.methodLink RX5 3 objectInit, Cond.fieldLink RX5 9 "TariffDesk$Tree" "stands" "[I", Cond.fieldLink RX5 15 "TariffDesk$Tree" "changedNodes" "[I", Cond.fieldLink RX5 18 "TariffDesk$Tree" "stoodBefore" "[I", Cond.fieldLink RX5 21 "TariffDesk$Tree" "changesBefore" "[I", Cond.fieldLink RX5 24 "TariffDesk$Tree" "lowest" "[I", Cond.fieldLink RX5 27 "TariffDesk$Tree" "tariffs" "LTariffDesk$Tariffs;", Cond.methodLink RX5 31 yJ7_fill_53178, Cond.static yJ7_fill_53178, Cond.initialized RJ7, Cond.code yJ7_fill_53178 cJ7_fill_53178 4 none, Cond.instanceMethod yX2_init, Cond.code yX2_init cX2_init 1 none]
def wsL_law_r4 : List Cond := [Cond.methodLink RX2 3 objectInit, Cond.fieldLink RX2 9 "TariffDesk$Seen" "numbers" "[I", Cond.fieldLink RX2 15 "TariffDesk$Seen" "quantities" "[I", Cond.fieldLink RX2 18 "TariffDesk$Seen" "prices" "[I", Cond.arrayClass .long, Cond.fieldLink RX2 21 "TariffDesk$Seen" "pricesByKind" "[J", Cond.instanceMethod yX0_init, Cond.code yX0_init cX0_init 1 none, Cond.methodLink RX0 3 objectInit, Cond.methodLink RL 12 yX7_init, Cond.instanceMethod yX7_init, Cond.code yX7_init cX7_init 1 none, Cond.methodLink RX7 1 objectInit, Cond.fieldLink RX7 7 "TariffDeskModel" "kindOf" "[I", Cond.fieldLink RX7 13 "TariffDeskModel" "rateOf" "[I", Cond.fieldLink RX7 16 "TariffDeskModel" "baseOf" "[I", Cond.fieldLink RX7 19 "TariffDeskModel" "firstOf" "[I", Cond.fieldLink RX7 22 "TariffDeskModel" "lastOf" "[I", Cond.fieldLink RX7 25 "TariffDeskModel" "stands" "[I", Cond.fieldLink RX7 28 "TariffDeskModel" "seenTariff" "[I", Cond.fieldLink RX7 31 "TariffDeskModel" "seenQuantity" "[I", Cond.fieldLink RX7 34 "TariffDeskModel" "seenPrice" "[I", Cond.arrayClass .byte, Cond.fieldLink RX7 37 "TariffDeskModel" "page" "[B"]
def wsL_law_r5 : List Cond := [Cond.fieldLink RX7 41 "TariffDeskModel" "before" "[I", Cond.fieldLink RX7 44 "TariffDeskModel" "keptKind" "[I", Cond.fieldLink RX7 47 "TariffDeskModel" "keptRate" "[I", Cond.fieldLink RX7 50 "TariffDeskModel" "keptBase" "[I", Cond.fieldLink RX7 53 "TariffDeskModel" "keptFirst" "[I", Cond.fieldLink RX7 56 "TariffDeskModel" "keptLast" "[I", Cond.fieldLink RX7 59 "TariffDeskModel" "keptTariff" "[I", Cond.fieldLink RX7 62 "TariffDeskModel" "keptQuantity" "[I", Cond.fieldLink RX7 65 "TariffDeskModel" "keptPrice" "[I", Cond.methodLink RL 13 yX6_letter, Cond.instanceMethod yX6_letter, Cond.selects RX6 yX6_letter yX6_letter, Cond.code yX6_letter cX6_letter 2 (some .int), Cond.fieldLink RX6 65 "TariffDesk$Page" "length" "I", Cond.methodLink RX6 61 yX1_write, Cond.instanceMethod yX1_write, Cond.selects RX1 yX1_write yX1_write, Cond.code yX1_write cX1_write 2 (some .boolean), Cond.fieldLink RX1 15 "TariffDesk$Page" "length" "I", Cond.methodLink RL 17 yX7_letter, Cond.instanceMethod yX7_letter, Cond.selects RX7 yX7_letter yX7_letter, Cond.code yX7_letter cX7_letter 2 (some .int), Cond.fieldLink RX7 72 "TariffDeskModel" "pageLength" "I"]
def wsL_law_r6 : List Cond := [Cond.methodLink RX7 68 yX7_within, Cond.static yX7_within, Cond.code yX7_within cX7_within 3 (some .boolean), Cond.methodLink RL 18 yX6_blank, Cond.instanceMethod yX6_blank, Cond.selects RX6 yX6_blank yX6_blank, Cond.code yX6_blank cX6_blank 2 (some .int), Cond.methodLink RL 22 yX7_blank, Cond.instanceMethod yX7_blank, Cond.selects RX7 yX7_blank yX7_blank, Cond.code yX7_blank cX7_blank 2 (some .int), Cond.methodLink RL 23 yX6_fault, Cond.instanceMethod yX6_fault, Cond.selects RX6 yX6_fault yX6_fault, Cond.code yX6_fault cX6_fault 1 (some .int), Cond.methodLink RX6 69 yX1_firstWrong, Cond.instanceMethod yX1_firstWrong, Cond.selects RX1 yX1_firstWrong yX1_firstWrong, Cond.code yX1_firstWrong cX1_firstWrong 2 (some .int), Cond.methodLink RX1 19 yX1_goesOn, Cond.instanceMethod yX1_goesOn, Cond.selects RX1 yX1_goesOn yX1_goesOn, Cond.code yX1_goesOn cX1_goesOn 3 (some .boolean), Cond.methodLink RX1 27 yX1_letterAt]
def wsL_law_r7 : List Cond := [Cond.instanceMethod yX1_letterAt, Cond.selects RX1 yX1_letterAt yX1_letterAt, Cond.code yX1_letterAt cX1_letterAt 2 (some .int), Cond.methodLink RX1 33 yJ0_indexOf_0f7a4, Cond.instanceMethod yJ0_indexOf_0f7a4, Cond.selects RJ0 yJ0_indexOf_0f7a4 yJ0_indexOf_0f7a4, Cond.initialized RJ0, Cond.code yJ0_indexOf_0f7a4 cJ0_indexOf_0f7a4 2 (some .int), Cond.methodLink RJ0 633 yJ0_indexOf_7cf53, Cond.instanceMethod yJ0_indexOf_7cf53, Cond.selects RJ0 yJ0_indexOf_7cf53 yJ0_indexOf_7cf53, Cond.code yJ0_indexOf_7cf53 cJ0_indexOf_7cf53 3 (some .int), Cond.fieldLink RJ0 9 "java/lang/String" "value" "[B", Cond.methodLink RJ0 492 yJ0_isLatin1_aae02, Cond.instanceMethod yJ0_isLatin1_aae02, Cond.selects RJ0 yJ0_isLatin1_aae02 yJ0_isLatin1_aae02, Cond.code yJ0_isLatin1_aae02 cJ0_isLatin1_aae02 1 (some .boolean), Cond.fieldLink RJ0 38 "java/lang/String" "COMPACT_STRINGS" "Z", Cond.fieldLink RJ0 15 "java/lang/String" "coder" "B", Cond.methodLink RJ0 505 yJ0_length_8abf5, Cond.instanceMethod yJ0_length_8abf5, Cond.selects RJ0 yJ0_length_8abf5 yJ0_length_8abf5, Cond.code yJ0_length_8abf5 cJ0_length_8abf5 1 (some .int), Cond.methodLink RJ0 335 yJ0_coder_7d493]
def wsL_law_r8 : List Cond := [Cond.instanceMethod yJ0_coder_7d493, Cond.selects RJ0 yJ0_coder_7d493 yJ0_coder_7d493, Cond.code yJ0_coder_7d493 cJ0_coder_7d493 1 (some .byte), Cond.methodLink RJ0 637 yJ1_indexOf_4cfef, Cond.static yJ1_indexOf_4cfef, Cond.initialized RJ1, Cond.code yJ1_indexOf_4cfef cJ1_indexOf_4cfef 4 (some .int), Cond.methodLink RJ1 92 Lib.Math.max.name, Cond.methodLink RJ1 38 Lib.Math.min.name, Cond.static Lib.Math.min.name, Cond.code Lib.Math.min.name Lib.Math.min.code 2 (some .int), Cond.methodLink RJ1 88 yJ1_canEncode_9a6ad, Cond.static yJ1_canEncode_9a6ad, Cond.code yJ1_canEncode_9a6ad cJ1_canEncode_9a6ad 1 (some .boolean), Cond.methodLink RJ1 95 yJ1_indexOfChar_4cfef, Cond.static yJ1_indexOfChar_4cfef, Cond.code yJ1_indexOfChar_4cfef cJ1_indexOfChar_4cfef 6 (some .int), Cond.methodLink RJ0 640 yJ2_indexOf_4cfef, Cond.static yJ2_indexOf_4cfef, Cond.initialized RJ2, Cond.code yJ2_indexOf_4cfef cJ2_indexOf_4cfef 4 (some .int), Cond.methodLink RJ2 224 Lib.Math.max.name, Cond.methodLink RJ2 183 Lib.Math.min.name, Cond.constant RJ2 227 (65536)]
def wsL_law_r9 : List Cond := [Cond.methodLink RJ2 228 yJ2_indexOfChar_4cfef, Cond.static yJ2_indexOfChar_4cfef, Cond.code yJ2_indexOfChar_4cfef cJ2_indexOfChar_4cfef 4 (some .int), Cond.methodLink RJ2 96 yJ2_checkBoundsBeginEnd_d044e, Cond.static yJ2_checkBoundsBeginEnd_d044e, Cond.code yJ2_checkBoundsBeginEnd_d044e cJ2_checkBoundsBeginEnd_d044e 3 none, Cond.methodLink RJ2 48 yJ2_length_9d52b, Cond.static yJ2_length_9d52b, Cond.code yJ2_length_9d52b cJ2_length_9d52b 1 (some .int), Cond.methodLink RJ2 241 yJ0_checkBoundsBeginEnd_23922, Cond.static yJ0_checkBoundsBeginEnd_23922, Cond.code yJ0_checkBoundsBeginEnd_23922 cJ0_checkBoundsBeginEnd_23922 3 none, Cond.fieldLink RJ0 1053 "jdk/internal/util/Preconditions" "SIOOBE_FORMATTER" "Ljava/util/function/BiFunction;", Cond.methodLink RJ0 1062 yJ3_checkFromToIndex_8c36e, Cond.static yJ3_checkFromToIndex_8c36e, Cond.initialized RJ3, Cond.code yJ3_checkFromToIndex_8c36e cJ3_checkFromToIndex_8c36e 4 (some .int), Cond.methodLink RJ2 244 yJ2_indexOfCharUnsafe_4cfef, Cond.static yJ2_indexOfCharUnsafe_4cfef, Cond.code yJ2_indexOfCharUnsafe_4cfef cJ2_indexOfCharUnsafe_4cfef 5 (some .int), Cond.methodLink RJ2 71 yJ2_getChar_3b067, Cond.static yJ2_getChar_3b067, Cond.code yJ2_getChar_3b067 cJ2_getChar_3b067 2 (some .char), Cond.fieldLink RJ2 44 "java/lang/StringUTF16" "$assertionsDisabled" "Z"]
def wsL_law_r10 : List Cond := [Cond.fieldLink RJ2 59 "java/lang/StringUTF16" "HI_BYTE_SHIFT" "I", Cond.fieldLink RJ2 63 "java/lang/StringUTF16" "LO_BYTE_SHIFT" "I", Cond.methodLink RJ2 232 yJ2_indexOfSupplementary_4cfef, Cond.static yJ2_indexOfSupplementary_4cfef, Cond.code yJ2_indexOfSupplementary_4cfef cJ2_indexOfSupplementary_4cfef 7 (some .int), Cond.methodLink RJ2 164 yJ11_isValidCodePoint_9a6ad, Cond.static yJ11_isValidCodePoint_9a6ad, Cond.initialized RJ11, Cond.code yJ11_isValidCodePoint_9a6ad cJ11_isValidCodePoint_9a6ad 2 (some .boolean), Cond.methodLink RJ2 157 yJ11_highSurrogate_5068e, Cond.static yJ11_highSurrogate_5068e, Cond.code yJ11_highSurrogate_5068e cJ11_highSurrogate_5068e 1 (some .char), Cond.constant RJ11 110 (55232), Cond.methodLink RJ2 161 yJ11_lowSurrogate_5068e, Cond.static yJ11_lowSurrogate_5068e, Cond.code yJ11_lowSurrogate_5068e cJ11_lowSurrogate_5068e 1 (some .char), Cond.constant RJ11 76 (56320), Cond.methodLink RX1 38 yX1_isDigit, Cond.static yX1_isDigit, Cond.code yX1_isDigit cX1_isDigit 1 (some .boolean), Cond.methodLink RX1 41 yX1_digitAt, Cond.instanceMethod yX1_digitAt, Cond.selects RX1 yX1_digitAt yX1_digitAt, Cond.code yX1_digitAt cX1_digitAt 2 (some .int)]
def wsL_law_r11 : List Cond := [Cond.methodLink RX1 44 yX1_pairAt, Cond.instanceMethod yX1_pairAt, Cond.selects RX1 yX1_pairAt yX1_pairAt, Cond.code yX1_pairAt cX1_pairAt 2 (some .int), Cond.methodLink RL 26 yX7_fault, Cond.instanceMethod yX7_fault, Cond.selects RX7 yX7_fault yX7_fault, Cond.code yX7_fault cX7_fault 1 (some .int), Cond.methodLink RX7 104 yX7_read, Cond.instanceMethod yX7_read, Cond.selects RX7 yX7_read yX7_read, Cond.code yX7_read cX7_read 3 (some .int), Cond.fieldLink RX7 94 "TariffDeskModel" "isWhole" "Z", Cond.fieldLink RX7 98 "TariffDeskModel" "newTariffs" "I", Cond.methodLink RX7 101 yX7_readTariff, Cond.instanceMethod yX7_readTariff, Cond.selects RX7 yX7_readTariff yX7_readTariff, Cond.code yX7_readTariff cX7_readTariff 3 (some .int), Cond.methodLink RX7 90 yX7_isLetter, Cond.instanceMethod yX7_isLetter, Cond.selects RX7 yX7_isLetter yX7_isLetter, Cond.code yX7_isLetter cX7_isLetter 4 (some .boolean), Cond.methodLink RX7 76 yX7_at, Cond.instanceMethod yX7_at]
def wsL_law_r12 : List Cond := [Cond.selects RX7 yX7_at yX7_at, Cond.code yX7_at cX7_at 2 (some .int), Cond.methodLink RX7 80 yX7_kindBy, Cond.static yX7_kindBy, Cond.code yX7_kindBy cX7_kindBy 1 (some .int), Cond.methodLink RX7 83 yX7_isSign, Cond.instanceMethod yX7_isSign, Cond.selects RX7 yX7_isSign yX7_isSign, Cond.code yX7_isSign cX7_isSign 2 (some .boolean), Cond.methodLink RX7 87 yX7_figure, Cond.instanceMethod yX7_figure, Cond.selects RX7 yX7_figure yX7_figure, Cond.code yX7_figure cX7_figure 2 (some .int), Cond.methodLink RL 27 yX6_desk, Cond.instanceMethod yX6_desk, Cond.selects RX6 yX6_desk yX6_desk, Cond.code yX6_desk cX6_desk 2 (some .int), Cond.fieldLink RX6 80 "TariffDesk$Seen" "size" "I", Cond.fieldLink RX6 83 "TariffDesk" "hasImage" "Z", Cond.fieldLink RX6 87 "TariffDesk" "hasDesk" "Z", Cond.fieldLink RX6 90 "TariffDesk" "desksRead" "I", Cond.fieldLink RX6 101 "TariffDesk$Tariffs" "size" "I", Cond.methodLink RX6 73 yX1_isWholeDesk, Cond.instanceMethod yX1_isWholeDesk]
def wsL_law_r13 : List Cond := [Cond.selects RX1 yX1_isWholeDesk yX1_isWholeDesk, Cond.code yX1_isWholeDesk cX1_isWholeDesk 1 (some .boolean), Cond.methodLink RX1 23 yX1_firstWrong, Cond.methodLink RX6 77 yX5_empty, Cond.instanceMethod yX5_empty, Cond.selects RX5 yX5_empty yX5_empty, Cond.code yX5_empty cX5_empty 1 none, Cond.fieldLink RX5 37 "TariffDesk$Tariffs" "size" "I", Cond.fieldLink RX5 43 "TariffDesk$Tree" "changes" "I", Cond.methodLink RX6 93 yX1_readTariff, Cond.instanceMethod yX1_readTariff, Cond.selects RX1 yX1_readTariff yX1_readTariff, Cond.code yX1_readTariff cX1_readTariff 6 none, Cond.methodLink RX1 47 yX1_signAt, Cond.instanceMethod yX1_signAt, Cond.selects RX1 yX1_signAt yX1_signAt, Cond.code yX1_signAt cX1_signAt 2 (some .int), Cond.methodLink RX1 50 yX3_write, Cond.instanceMethod yX3_write, Cond.selects RX3 yX3_write yX3_write, Cond.code yX3_write cX3_write 6 none, Cond.fieldLink RX3 9 "TariffDesk$Tariff" "kind" "I", Cond.fieldLink RX3 15 "TariffDesk$Tariff" "rate" "I", Cond.fieldLink RX3 18 "TariffDesk$Tariff" "base" "I"]
def wsL_law_r14 : List Cond := [Cond.fieldLink RX3 21 "TariffDesk$Tariff" "first" "I", Cond.fieldLink RX3 24 "TariffDesk$Tariff" "last" "I", Cond.methodLink RX6 97 yX5_take, Cond.instanceMethod yX5_take, Cond.selects RX5 yX5_take yX5_take, Cond.code yX5_take cX5_take 7 (some .int), Cond.fieldLink RX5 50 "TariffDesk$Tariff" "first" "I", Cond.fieldLink RX5 55 "TariffDesk$Tariff" "last" "I", Cond.methodLink RX5 46 yX4_add, Cond.instanceMethod yX4_add, Cond.selects RX4 yX4_add yX4_add, Cond.code yX4_add cX4_add 2 none, Cond.fieldLink RX4 22 "TariffDesk$Tariffs" "size" "I", Cond.methodLink RX4 26 yX4_at, Cond.instanceMethod yX4_at, Cond.selects RX4 yX4_at yX4_at, Cond.code yX4_at cX4_at 2 (some (.object "TariffDesk$Tariff")), Cond.methodLink RX4 30 yX3_copyFrom, Cond.instanceMethod yX3_copyFrom, Cond.selects RX3 yX3_copyFrom yX3_copyFrom, Cond.code yX3_copyFrom cX3_copyFrom 2 none, Cond.methodLink RX3 27 yX3_write, Cond.methodLink RX5 58 yX5_widestNode, Cond.static yX5_widestNode]
def wsL_law_r15 : List Cond := [Cond.code yX5_widestNode cX5_widestNode 3 (some .int), Cond.methodLink RX5 66 yX5_lastOf, Cond.static yX5_lastOf, Cond.code yX5_lastOf cX5_lastOf 1 (some .int), Cond.methodLink RX5 88 yX5_firstOf, Cond.static yX5_firstOf, Cond.code yX5_firstOf cX5_firstOf 1 (some .int), Cond.methodLink RX5 85 yX5_sizeOf, Cond.static yX5_sizeOf, Cond.code yX5_sizeOf cX5_sizeOf 3 (some .int), Cond.methodLink RX5 62 yX5_push, Cond.instanceMethod yX5_push, Cond.selects RX5 yX5_push yX5_push, Cond.code yX5_push cX5_push 7 none, Cond.methodLink RX5 91 yX5_put, Cond.instanceMethod yX5_put, Cond.selects RX5 yX5_put yX5_put, Cond.code yX5_put cX5_put 3 none, Cond.methodLink RX5 105 yX5_isLogPlace, Cond.instanceMethod yX5_isLogPlace, Cond.selects RX5 yX5_isLogPlace yX5_isLogPlace, Cond.code yX5_isLogPlace cX5_isLogPlace 2 (some .boolean), Cond.methodLink RX5 94 yX5_middleOf, Cond.static yX5_middleOf]
def wsL_law_r16 : List Cond := [Cond.code yX5_middleOf cX5_middleOf 1 (some .int), Cond.methodLink RX5 97 yX4_isBetter, Cond.instanceMethod yX4_isBetter, Cond.selects RX4 yX4_isBetter yX4_isBetter, Cond.code yX4_isBetter cX4_isBetter 8 (some .boolean), Cond.methodLink RX4 37 yX3_priceFor, Cond.instanceMethod yX3_priceFor, Cond.selects RX3 yX3_priceFor yX3_priceFor, Cond.code yX3_priceFor cX3_priceFor 2 (some .long), Cond.methodLink RX3 31 yX3_byRate, Cond.instanceMethod yX3_byRate, Cond.selects RX3 yX3_byRate yX3_byRate, Cond.code yX3_byRate cX3_byRate 3 (some .long), Cond.constantLong RX3 45 (2), Cond.methodLink RX3 35 yX3_byBase, Cond.instanceMethod yX3_byBase, Cond.selects RX3 yX3_byBase yX3_byBase, Cond.code yX3_byBase cX3_byBase 2 (some .int), Cond.methodLink RX3 39 yJ9_floorDiv_7cf53, Cond.static yJ9_floorDiv_7cf53, Cond.initialized RJ9, Cond.code yJ9_floorDiv_7cf53 cJ9_floorDiv_7cf53 3 (some .int), Cond.methodLink RX5 101 yX5_halfFor, Cond.instanceMethod yX5_halfFor]
def wsL_law_r17 : List Cond := [Cond.selects RX5 yX5_halfFor yX5_halfFor, Cond.code yX5_halfFor cX5_halfFor 4 (some .int), Cond.methodLink RX5 70 yX5_lowerBy, Cond.instanceMethod yX5_lowerBy, Cond.selects RX5 yX5_lowerBy yX5_lowerBy, Cond.code yX5_lowerBy cX5_lowerBy 5 none, Cond.methodLink RX5 108 yX3_spans, Cond.instanceMethod yX3_spans, Cond.selects RX3 yX3_spans yX3_spans, Cond.code yX3_spans cX3_spans 2 (some .boolean), Cond.methodLink RL 30 yX7_desk, Cond.instanceMethod yX7_desk, Cond.selects RX7 yX7_desk yX7_desk, Cond.code yX7_desk cX7_desk 3 (some .int), Cond.fieldLink RX7 108 "TariffDeskModel" "tariffs" "I", Cond.fieldLink RX7 119 "TariffDeskModel" "desks" "I", Cond.fieldLink RX7 122 "TariffDeskModel" "seen" "I", Cond.methodLink RX7 111 yX7_signed, Cond.instanceMethod yX7_signed, Cond.selects RX7 yX7_signed yX7_signed, Cond.code yX7_signed cX7_signed 5 (some .int), Cond.methodLink RX7 115 yX7_take, Cond.instanceMethod yX7_take, Cond.selects RX7 yX7_take yX7_take]
def wsL_law_r18 : List Cond := [Cond.code yX7_take cX7_take 6 none, Cond.methodLink RX7 172 yX7_offerNow, Cond.instanceMethod yX7_offerNow, Cond.selects RX7 yX7_offerNow yX7_offerNow, Cond.code yX7_offerNow cX7_offerNow 4 none, Cond.methodLink RX7 165 yX7_isAll, Cond.instanceMethod yX7_isAll, Cond.selects RX7 yX7_isAll yX7_isAll, Cond.code yX7_isAll cX7_isAll 3 (some .boolean), Cond.methodLink RX7 153 yX7_firstAt, Cond.static yX7_firstAt, Cond.code yX7_firstAt cX7_firstAt 2 (some .int), Cond.methodLink RX7 150 yX7_lengthOf, Cond.static yX7_lengthOf, Cond.code yX7_lengthOf cX7_lengthOf 3 (some .int), Cond.methodLink RX7 162 yX7_lastAt, Cond.static yX7_lastAt, Cond.code yX7_lastAt cX7_lastAt 1 (some .int), Cond.methodLink RX7 168 yX7_push, Cond.instanceMethod yX7_push, Cond.selects RX7 yX7_push yX7_push, Cond.code yX7_push cX7_push 9 none, Cond.methodLink RX7 156 yX7_middleAt, Cond.static yX7_middleAt]
def wsL_law_r19 : List Cond := [Cond.code yX7_middleAt cX7_middleAt 1 (some .int), Cond.methodLink RX7 159 yX7_isBetter, Cond.instanceMethod yX7_isBetter, Cond.selects RX7 yX7_isBetter yX7_isBetter, Cond.code yX7_isBetter cX7_isBetter 8 (some .boolean), Cond.methodLink RX7 147 yX7_priceOf, Cond.instanceMethod yX7_priceOf, Cond.selects RX7 yX7_priceOf yX7_priceOf, Cond.code yX7_priceOf cX7_priceOf 3 (some .long), Cond.methodLink RX7 135 yX7_priceBy, Cond.static yX7_priceBy, Cond.code yX7_priceBy cX7_priceBy 5 (some .long), Cond.methodLink RX7 127 yX7_often, Cond.static yX7_often, Cond.code yX7_often cX7_often 3 (some .long), Cond.constantLong RX7 125 (2), Cond.methodLink RX7 131 yX7_asBase, Cond.static yX7_asBase, Cond.code yX7_asBase cX7_asBase 2 (some .long), Cond.methodLink RL 31 yX6_tariff, Cond.instanceMethod yX6_tariff, Cond.selects RX6 yX6_tariff yX6_tariff, Cond.code yX6_tariff cX6_tariff 4 (some .int), Cond.fieldLink RX6 109 "TariffDesk$Tariff" "kind" "I"]
def wsL_law_r20 : List Cond := [Cond.fieldLink RX6 112 "TariffDesk$Tariff" "first" "I", Cond.fieldLink RX6 115 "TariffDesk$Tariff" "last" "I", Cond.methodLink RX6 102 yX4_hasNumber, Cond.instanceMethod yX4_hasNumber, Cond.selects RX4 yX4_hasNumber yX4_hasNumber, Cond.code yX4_hasNumber cX4_hasNumber 2 (some .boolean), Cond.methodLink RX6 105 yX4_at, Cond.methodLink RX6 118 yX5_nodesOf, Cond.instanceMethod yX5_nodesOf, Cond.selects RX5 yX5_nodesOf yX5_nodesOf, Cond.code yX5_nodesOf cX5_nodesOf 5 (some .int), Cond.methodLink RX6 122 yX6_quantitiesOf, Cond.instanceMethod yX6_quantitiesOf, Cond.selects RX6 yX6_quantitiesOf yX6_quantitiesOf, Cond.code yX6_quantitiesOf cX6_quantitiesOf 6 (some .int), Cond.methodLink RX6 174 yX5_lowestFor, Cond.instanceMethod yX5_lowestFor, Cond.selects RX5 yX5_lowestFor yX5_lowestFor, Cond.code yX5_lowestFor cX5_lowestFor 2 (some .int), Cond.static yX6_isQuantity, Cond.code yX6_isQuantity cX6_isQuantity 1 (some .boolean), Cond.methodLink RX6 125 yX2_sortsOf, Cond.instanceMethod yX2_sortsOf, Cond.selects RX2 yX2_sortsOf yX2_sortsOf]
def wsL_law_r21 : List Cond := [Cond.code yX2_sortsOf cX2_sortsOf 5 (some .int), Cond.methodLink RX2 33 yX2_canBe, Cond.instanceMethod yX2_canBe, Cond.selects RX2 yX2_canBe yX2_canBe, Cond.code yX2_canBe cX2_canBe 5 (some .boolean), Cond.fieldLink RX2 25 "TariffDesk$Seen" "size" "I", Cond.methodLink RX2 53 yX3_priceAs, Cond.instanceMethod yX3_priceAs, Cond.selects RX3 yX3_priceAs yX3_priceAs, Cond.code yX3_priceAs cX3_priceAs 3 (some .long), Cond.methodLink RX6 129 yX2_nextToAsk, Cond.instanceMethod yX2_nextToAsk, Cond.selects RX2 yX2_nextToAsk yX2_nextToAsk, Cond.code yX2_nextToAsk cX2_nextToAsk 8 (some .int), Cond.fieldLink RX2 41 "TariffDesk$Tariff" "first" "I", Cond.fieldLink RX2 46 "TariffDesk$Tariff" "last" "I", Cond.methodLink RX2 37 yX2_sortsOf, Cond.methodLink RX2 49 yX2_leftAtWorst, Cond.instanceMethod yX2_leftAtWorst, Cond.selects RX2 yX2_leftAtWorst yX2_leftAtWorst, Cond.code yX2_leftAtWorst cX2_leftAtWorst 8 (some .int), Cond.methodLink RX2 57 Lib.Math.max.name, Cond.methodLink RL 35 yX7_tariff, Cond.instanceMethod yX7_tariff]
def wsL_law_r22 : List Cond := [Cond.selects RX7 yX7_tariff yX7_tariff, Cond.code yX7_tariff cX7_tariff 3 (some .int), Cond.methodLink RX7 191 yX7_isTariff, Cond.instanceMethod yX7_isTariff, Cond.selects RX7 yX7_isTariff yX7_isTariff, Cond.code yX7_isTariff cX7_isTariff 2 (some .boolean), Cond.methodLink RX7 194 yX7_tariffNow, Cond.instanceMethod yX7_tariffNow, Cond.selects RX7 yX7_tariffNow yX7_tariffNow, Cond.code yX7_tariffNow cX7_tariffNow 3 (some .int), Cond.methodLink RX7 179 yX7_nodesOf, Cond.instanceMethod yX7_nodesOf, Cond.selects RX7 yX7_nodesOf yX7_nodesOf, Cond.code yX7_nodesOf cX7_nodesOf 4 (some .int), Cond.methodLink RX7 182 yX7_quantitiesOf, Cond.instanceMethod yX7_quantitiesOf, Cond.selects RX7 yX7_quantitiesOf yX7_quantitiesOf, Cond.code yX7_quantitiesOf cX7_quantitiesOf 4 (some .int), Cond.methodLink RX7 176 yX7_cheapestFor, Cond.instanceMethod yX7_cheapestFor, Cond.selects RX7 yX7_cheapestFor yX7_cheapestFor, Cond.code yX7_cheapestFor cX7_cheapestFor 5 (some .int), Cond.methodLink RX7 185 yX7_sortsOf, Cond.instanceMethod yX7_sortsOf]
def wsL_law_r23 : List Cond := [Cond.selects RX7 yX7_sortsOf yX7_sortsOf, Cond.code yX7_sortsOf cX7_sortsOf 6 (some .int), Cond.methodLink RX7 250 yX7_asKind, Cond.instanceMethod yX7_asKind, Cond.selects RX7 yX7_asKind yX7_asKind, Cond.code yX7_asKind cX7_asKind 4 (some .long), Cond.methodLink RX7 188 yX7_askOf, Cond.instanceMethod yX7_askOf, Cond.selects RX7 yX7_askOf yX7_askOf, Cond.code yX7_askOf cX7_askOf 7 (some .int), Cond.constant RX7 256 (268435456), Cond.methodLink RX7 257 yX7_worstBy, Cond.instanceMethod yX7_worstBy, Cond.selects RX7 yX7_worstBy yX7_worstBy, Cond.code yX7_worstBy cX7_worstBy 8 (some .int), Cond.methodLink RX7 253 yX7_isIn, Cond.static yX7_isIn, Cond.code yX7_isIn cX7_isIn 2 (some .boolean), Cond.methodLink RL 36 yX6_as, Cond.instanceMethod yX6_as, Cond.selects RX6 yX6_as yX6_as, Cond.code yX6_as cX6_as 3 (some .int), Cond.methodLink RX6 132 yX6_isKind, Cond.static yX6_isKind]
def wsL_law_r24 : List Cond := [Cond.code yX6_isKind cX6_isKind 1 (some .boolean), Cond.methodLink RX6 135 yX3_isOf, Cond.instanceMethod yX3_isOf, Cond.selects RX3 yX3_isOf yX3_isOf, Cond.code yX3_isOf cX3_isOf 2 (some .boolean), Cond.methodLink RL 39 yX7_as, Cond.instanceMethod yX7_as, Cond.selects RX7 yX7_as yX7_as, Cond.code yX7_as cX7_as 4 (some .int), Cond.methodLink RL 40 yX6_price, Cond.instanceMethod yX6_price, Cond.selects RX6 yX6_price yX6_price, Cond.code yX6_price cX6_price 4 (some .long), Cond.constantLong RX6 141 (-101), Cond.constantLong RX6 146 (3000000000), Cond.constantLong RX6 152 (-102), Cond.methodLink RX6 138 yX6_isQuantity, Cond.methodLink RX6 143 yX3_spans, Cond.methodLink RX6 148 yX3_priceFor, Cond.methodLink RL 44 yX7_price, Cond.instanceMethod yX7_price, Cond.selects RX7 yX7_price yX7_price, Cond.code yX7_price cX7_price 3 (some .long), Cond.constantLong RX7 200 (-101)]
def wsL_law_r25 : List Cond := [Cond.constantLong RX7 205 (3000000000), Cond.constantLong RX7 207 (-102), Cond.methodLink RX7 197 yX7_isQuantity, Cond.static yX7_isQuantity, Cond.code yX7_isQuantity cX7_isQuantity 1 (some .boolean), Cond.methodLink RX7 202 yX7_has, Cond.instanceMethod yX7_has, Cond.selects RX7 yX7_has yX7_has, Cond.code yX7_has cX7_has 3 (some .boolean), Cond.methodLink RL 45 yX6_node, Cond.instanceMethod yX6_node, Cond.selects RX6 yX6_node yX6_node, Cond.code yX6_node cX6_node 3 (some .int), Cond.methodLink RX6 154 yX5_standingAt, Cond.instanceMethod yX5_standingAt, Cond.selects RX5 yX5_standingAt yX5_standingAt, Cond.code yX5_standingAt cX5_standingAt 2 (some .int), Cond.methodLink RX6 158 yX5_firstOf, Cond.methodLink RX6 161 yX5_lastOf, Cond.methodLink RX6 164 yX5_middleOf, Cond.methodLink RL 48 yX7_node, Cond.instanceMethod yX7_node, Cond.selects RX7 yX7_node yX7_node, Cond.code yX7_node cX7_node 3 (some .int)]
def wsL_law_r26 : List Cond := [Cond.methodLink RX7 209 yX7_nodeNow, Cond.instanceMethod yX7_nodeNow, Cond.selects RX7 yX7_nodeNow yX7_nodeNow, Cond.code yX7_nodeNow cX7_nodeNow 3 (some .int), Cond.methodLink RL 49 yX6_offer, Cond.instanceMethod yX6_offer, Cond.selects RX6 yX6_offer yX6_offer, Cond.code yX6_offer cX6_offer 6 (some .int), Cond.methodLink RX6 167 yX6_refusalOf, Cond.instanceMethod yX6_refusalOf, Cond.selects RX6 yX6_refusalOf yX6_refusalOf, Cond.code yX6_refusalOf cX6_refusalOf 7 (some .int), Cond.methodLink RX6 248 yX3_write, Cond.methodLink RX6 251 yX3_isTooGreat, Cond.instanceMethod yX3_isTooGreat, Cond.selects RX3 yX3_isTooGreat yX3_isTooGreat, Cond.code yX3_isTooGreat cX3_isTooGreat 2 (some .boolean), Cond.methodLink RX3 47 yX3_fits, Cond.static yX3_fits, Cond.code yX3_fits cX3_fits 2 (some .boolean), Cond.constantLong RX3 59 (-2147483648), Cond.constantLong RX3 61 (2147483647), Cond.methodLink RX3 51 yX3_fitsFor, Cond.instanceMethod yX3_fitsFor]
def wsL_law_r27 : List Cond := [Cond.selects RX3 yX3_fitsFor yX3_fitsFor, Cond.code yX3_fitsFor cX3_fitsFor 2 (some .boolean), Cond.methodLink RX3 55 yX3_priceFor, Cond.methodLink RL 53 yX7_offer, Cond.instanceMethod yX7_offer, Cond.selects RX7 yX7_offer yX7_offer, Cond.code yX7_offer cX7_offer 8 (some .int), Cond.methodLink RX7 219 yX7_refused, Cond.instanceMethod yX7_refused, Cond.selects RX7 yX7_refused yX7_refused, Cond.code yX7_refused cX7_refused 5 (some .int), Cond.methodLink RX7 212 yX7_isSpan, Cond.static yX7_isSpan, Cond.code yX7_isSpan cX7_isSpan 1 (some .boolean), Cond.methodLink RX7 215 yX7_isTooGreat, Cond.static yX7_isTooGreat, Cond.code yX7_isTooGreat cX7_isTooGreat 6 (some .boolean), Cond.methodLink RX7 143 yX7_isGreat, Cond.static yX7_isGreat, Cond.code yX7_isGreat cX7_isGreat 2 (some .boolean), Cond.constantLong RX7 139 (-2147483648), Cond.constantLong RX7 141 (2147483647), Cond.methodLink RX7 223 yX7_layBefore, Cond.instanceMethod yX7_layBefore]
def wsL_law_r28 : List Cond := [Cond.selects RX7 yX7_layBefore yX7_layBefore, Cond.code yX7_layBefore cX7_layBefore 2 none, Cond.methodLink RL 54 yX6_undo, Cond.instanceMethod yX6_undo, Cond.selects RX6 yX6_undo yX6_undo, Cond.code yX6_undo cX6_undo 1 (some .int), Cond.methodLink RX6 171 yX5_takeBack, Cond.instanceMethod yX5_takeBack, Cond.selects RX5 yX5_takeBack yX5_takeBack, Cond.code yX5_takeBack cX5_takeBack 3 none, Cond.methodLink RX5 74 yX5_putBack, Cond.instanceMethod yX5_putBack, Cond.selects RX5 yX5_putBack yX5_putBack, Cond.code yX5_putBack cX5_putBack 2 none, Cond.methodLink RX5 78 yX5_bestAbove, Cond.instanceMethod yX5_bestAbove, Cond.selects RX5 yX5_bestAbove yX5_bestAbove, Cond.code yX5_bestAbove cX5_bestAbove 5 (some .int), Cond.methodLink RX5 111 yX5_standingAt, Cond.methodLink RL 57 yX7_undo, Cond.instanceMethod yX7_undo, Cond.selects RX7 yX7_undo yX7_undo, Cond.code yX7_undo cX7_undo 1 (some .int), Cond.methodLink RX7 226 yX7_again]
def wsL_law_r29 : List Cond := [Cond.instanceMethod yX7_again, Cond.selects RX7 yX7_again yX7_again, Cond.code yX7_again cX7_again 3 none, Cond.methodLink RL 58 yX6_cheapest, Cond.instanceMethod yX6_cheapest, Cond.selects RX6 yX6_cheapest yX6_cheapest, Cond.code yX6_cheapest cX6_cheapest 2 (some .int), Cond.methodLink RL 61 yX7_cheapest, Cond.instanceMethod yX7_cheapest, Cond.selects RX7 yX7_cheapest yX7_cheapest, Cond.code yX7_cheapest cX7_cheapest 2 (some .int), Cond.methodLink RL 62 yX6_cost, Cond.instanceMethod yX6_cost, Cond.selects RX6 yX6_cost yX6_cost, Cond.code yX6_cost cX6_cost 3 (some .long), Cond.constantLong RX6 177 (-1), Cond.methodLink RL 66 yX7_cost, Cond.instanceMethod yX7_cost, Cond.selects RX7 yX7_cost yX7_cost, Cond.code yX7_cost cX7_cost 2 (some .long), Cond.methodLink RX7 231 yX7_costFor, Cond.instanceMethod yX7_costFor, Cond.selects RX7 yX7_costFor yX7_costFor, Cond.code yX7_costFor cX7_costFor 3 (some .long)]
def wsL_law_r30 : List Cond := [Cond.constantLong RX7 229 (-1), Cond.methodLink RL 67 yX6_piece, Cond.instanceMethod yX6_piece, Cond.selects RX6 yX6_piece yX6_piece, Cond.code yX6_piece cX6_piece 4 (some .int), Cond.methodLink RX6 179 yX6_firstOfPiece, Cond.instanceMethod yX6_firstOfPiece, Cond.selects RX6 yX6_firstOfPiece yX6_firstOfPiece, Cond.code yX6_firstOfPiece cX6_firstOfPiece 4 (some .int), Cond.methodLink RX6 254 yX6_beginsPiece, Cond.instanceMethod yX6_beginsPiece, Cond.selects RX6 yX6_beginsPiece yX6_beginsPiece, Cond.code yX6_beginsPiece cX6_beginsPiece 3 (some .boolean), Cond.methodLink RX6 182 yX6_lastOfPiece, Cond.instanceMethod yX6_lastOfPiece, Cond.selects RX6 yX6_lastOfPiece yX6_lastOfPiece, Cond.code yX6_lastOfPiece cX6_lastOfPiece 4 (some .int), Cond.methodLink RL 70 yX7_piece, Cond.instanceMethod yX7_piece, Cond.selects RX7 yX7_piece yX7_piece, Cond.code yX7_piece cX7_piece 3 (some .int), Cond.methodLink RX7 238 yX7_pieces, Cond.instanceMethod yX7_pieces, Cond.selects RX7 yX7_pieces yX7_pieces]
def wsL_law_r31 : List Cond := [Cond.code yX7_pieces cX7_pieces 3 (some .int), Cond.methodLink RX7 235 yX7_isFirstOfPiece, Cond.instanceMethod yX7_isFirstOfPiece, Cond.selects RX7 yX7_isFirstOfPiece yX7_isFirstOfPiece, Cond.code yX7_isFirstOfPiece cX7_isFirstOfPiece 3 (some .boolean), Cond.methodLink RX7 241 yX7_pieceNow, Cond.instanceMethod yX7_pieceNow, Cond.selects RX7 yX7_pieceNow yX7_pieceNow, Cond.code yX7_pieceNow cX7_pieceNow 7 (some .int), Cond.methodLink RL 71 yX6_bargain, Cond.instanceMethod yX6_bargain, Cond.selects RX6 yX6_bargain yX6_bargain, Cond.code yX6_bargain cX6_bargain 10 (some .int), Cond.methodLink RL 74 yX7_bargain, Cond.instanceMethod yX7_bargain, Cond.selects RX7 yX7_bargain yX7_bargain, Cond.code yX7_bargain cX7_bargain 3 (some .int), Cond.methodLink RX7 244 yX7_bargainIn, Cond.instanceMethod yX7_bargainIn, Cond.selects RX7 yX7_bargainIn yX7_bargainIn, Cond.code yX7_bargainIn cX7_bargainIn 6 (some .int), Cond.methodLink RL 75 yX6_crossing, Cond.instanceMethod yX6_crossing, Cond.selects RX6 yX6_crossing yX6_crossing]
def wsL_law_r32 : List Cond := [Cond.code yX6_crossing cX6_crossing 6 (some .int), Cond.methodLink RX6 185 Lib.Math.max.name, Cond.methodLink RX6 190 Lib.Math.min.name, Cond.methodLink RX6 193 yX4_isBetter, Cond.methodLink RL 78 yX7_crossing, Cond.instanceMethod yX7_crossing, Cond.selects RX7 yX7_crossing yX7_crossing, Cond.code yX7_crossing cX7_crossing 3 (some .int), Cond.methodLink RX7 247 yX7_crossingOf, Cond.instanceMethod yX7_crossingOf, Cond.selects RX7 yX7_crossingOf yX7_crossingOf, Cond.code yX7_crossingOf cX7_crossingOf 4 (some .int), Cond.methodLink RL 79 yX6_would, Cond.instanceMethod yX6_would, Cond.selects RX6 yX6_would yX6_would, Cond.code yX6_would cX6_would 9 (some .int), Cond.methodLink RL 82 yX7_would, Cond.instanceMethod yX7_would, Cond.selects RX7 yX7_would yX7_would, Cond.code yX7_would cX7_would 7 (some .int), Cond.methodLink RL 83 yX6_see, Cond.instanceMethod yX6_see, Cond.selects RX6 yX6_see yX6_see, Cond.code yX6_see cX6_see 4 (some .int)]
def wsL_law_r33 : List Cond := [Cond.methodLink RX6 197 yX2_write, Cond.instanceMethod yX2_write, Cond.selects RX2 yX2_write yX2_write, Cond.code yX2_write cX2_write 4 (some .boolean), Cond.methodLink RL 87 yX7_see, Cond.instanceMethod yX7_see, Cond.selects RX7 yX7_see yX7_see, Cond.code yX7_see cX7_see 4 (some .int), Cond.methodLink RL 88 yX6_forget, Cond.instanceMethod yX6_forget, Cond.selects RX6 yX6_forget yX6_forget, Cond.code yX6_forget cX6_forget 2 (some .int), Cond.methodLink RL 91 yX7_forget, Cond.instanceMethod yX7_forget, Cond.selects RX7 yX7_forget yX7_forget, Cond.code yX7_forget cX7_forget 2 (some .int), Cond.methodLink RL 92 yX6_drawn, Cond.instanceMethod yX6_drawn, Cond.selects RX6 yX6_drawn yX6_drawn, Cond.code yX6_drawn cX6_drawn 7 (some .int), Cond.fieldLink RX6 199 "TariffDesk$Draws" "seed" "I", Cond.methodLink RX6 202 yX0_drawTariff, Cond.instanceMethod yX0_drawTariff, Cond.selects RX0 yX0_drawTariff yX0_drawTariff]
def wsL_law_r34 : List Cond := [Cond.code yX0_drawTariff cX0_drawTariff 6 none, Cond.methodLink RX0 9 yX0_below, Cond.instanceMethod yX0_below, Cond.selects RX0 yX0_below yX0_below, Cond.code yX0_below cX0_below 2 (some .int), Cond.constant RX0 21 (1103515245), Cond.fieldLink RX0 22 "TariffDesk$Draws" "seed" "I", Cond.constant RX0 26 (2147483647), Cond.constant RX0 27 (65536), Cond.methodLink RX0 15 yX3_write, Cond.methodLink RL 95 yX7_drawn, Cond.instanceMethod yX7_drawn, Cond.selects RX7 yX7_drawn yX7_drawn, Cond.code yX7_drawn cX7_drawn 4 (some .int), Cond.methodLink RX7 277 yX7_drawnNow, Cond.instanceMethod yX7_drawnNow, Cond.selects RX7 yX7_drawnNow yX7_drawnNow, Cond.code yX7_drawnNow cX7_drawnNow 8 (some .int), Cond.fieldLink RX7 263 "TariffDeskModel" "seedNow" "J", Cond.methodLink RX7 274 yX7_drawOne, Cond.instanceMethod yX7_drawOne, Cond.selects RX7 yX7_drawOne yX7_drawOne, Cond.code yX7_drawOne cX7_drawOne 5 none, Cond.methodLink RX7 271 yX7_draw]
def wsL_law_r35 : List Cond := [Cond.instanceMethod yX7_draw, Cond.selects RX7 yX7_draw yX7_draw, Cond.code yX7_draw cX7_draw 2 (some .int), Cond.constantLong RX7 261 (1103515245), Cond.constantLong RX7 267 (12345), Cond.constantLong RX7 269 (65536), Cond.methodLink RL 96 yX6_image, Cond.instanceMethod yX6_image, Cond.selects RX6 yX6_image yX6_image, Cond.code yX6_image cX6_image 1 (some .int), Cond.methodLink RX6 206 yX4_copyFrom, Cond.instanceMethod yX4_copyFrom, Cond.selects RX4 yX4_copyFrom yX4_copyFrom, Cond.code yX4_copyFrom cX4_copyFrom 3 none, Cond.methodLink RX4 34 yX4_add, Cond.methodLink RX6 209 yX2_copyFrom, Cond.instanceMethod yX2_copyFrom, Cond.selects RX2 yX2_copyFrom yX2_copyFrom, Cond.code yX2_copyFrom cX2_copyFrom 3 none, Cond.methodLink RX2 29 yX2_write, Cond.methodLink RL 99 yX7_image, Cond.instanceMethod yX7_image, Cond.selects RX7 yX7_image yX7_image, Cond.code yX7_image cX7_image 2 (some .int)]
def wsL_law_r36 : List Cond := [Cond.fieldLink RX7 280 "TariffDeskModel" "isKept" "Z", Cond.fieldLink RX7 283 "TariffDeskModel" "keptDesk" "I", Cond.fieldLink RX7 286 "TariffDeskModel" "keptTariffs" "I", Cond.fieldLink RX7 289 "TariffDeskModel" "keptSeen" "I", Cond.methodLink RL 100 yX6_restore, Cond.instanceMethod yX6_restore, Cond.selects RX6 yX6_restore yX6_restore, Cond.code yX6_restore cX6_restore 2 (some .int), Cond.methodLink RL 103 yX7_restore, Cond.instanceMethod yX7_restore, Cond.selects RX7 yX7_restore yX7_restore, Cond.code yX7_restore cX7_restore 2 (some .int), Cond.methodLink RL 104 yX6_count, Cond.instanceMethod yX6_count, Cond.selects RX6 yX6_count yX6_count, Cond.code yX6_count cX6_count 2 (some .int), Cond.methodLink RX6 212 yX6_pieces, Cond.instanceMethod yX6_pieces, Cond.selects RX6 yX6_pieces yX6_pieces, Cond.code yX6_pieces cX6_pieces 3 (some .int), Cond.methodLink RX6 215 yX6_tariffsNeverLowest, Cond.instanceMethod yX6_tariffsNeverLowest, Cond.selects RX6 yX6_tariffsNeverLowest yX6_tariffsNeverLowest, Cond.code yX6_tariffsNeverLowest cX6_tariffsNeverLowest 3 (some .int)]
def wsL_law_r37 : List Cond := [Cond.methodLink RL 107 yX7_count, Cond.instanceMethod yX7_count, Cond.selects RX7 yX7_count yX7_count, Cond.code yX7_count cX7_count 2 (some .int), Cond.methodLink RX7 298 yX7_howMany, Cond.instanceMethod yX7_howMany, Cond.selects RX7 yX7_howMany yX7_howMany, Cond.code yX7_howMany cX7_howMany 2 (some .int), Cond.methodLink RX7 292 yX7_gaps, Cond.instanceMethod yX7_gaps, Cond.selects RX7 yX7_gaps yX7_gaps, Cond.code yX7_gaps cX7_gaps 3 (some .int), Cond.methodLink RX7 295 yX7_idle, Cond.instanceMethod yX7_idle, Cond.selects RX7 yX7_idle yX7_idle, Cond.code yX7_idle cX7_idle 3 (some .int), Cond.methodLink RL 108 yX6_digest, Cond.instanceMethod yX6_digest, Cond.selects RX6 yX6_digest yX6_digest, Cond.code yX6_digest cX6_digest 5 (some .long), Cond.constantLong RX6 218 (1361), Cond.methodLink RX6 220 yX6_tariff, Cond.methodLink RX6 223 yX6_mixed, Cond.static yX6_mixed]
def wsL_law_r38 : List Cond := [Cond.code yX6_mixed cX6_mixed 4 (some .long), Cond.constantLong RX6 246 (31), Cond.methodLink RX6 227 yX6_mixedWithTree, Cond.instanceMethod yX6_mixedWithTree, Cond.selects RX6 yX6_mixedWithTree yX6_mixedWithTree, Cond.code yX6_mixedWithTree cX6_mixedWithTree 6 (some .long), Cond.methodLink RX6 237 yX6_cheapest, Cond.methodLink RX6 240 yX6_cost, Cond.methodLink RX6 243 yX6_bargain, Cond.methodLink RX6 231 yX1_letterAt, Cond.methodLink RX6 234 yX6_count, Cond.methodLink RL 112 yX7_digest, Cond.instanceMethod yX7_digest, Cond.selects RX7 yX7_digest yX7_digest, Cond.code yX7_digest cX7_digest 3 (some .long), Cond.constantLong RX7 310 (1361), Cond.fieldLink RX7 303 "TariffDeskModel" "h" "J", Cond.methodLink RX7 306 yX7_mix, Cond.instanceMethod yX7_mix, Cond.selects RX7 yX7_mix yX7_mix, Cond.code yX7_mix cX7_mix 3 none, Cond.constantLong RX7 301 (31), Cond.methodLink RX7 312 yX7_mixDesk, Cond.instanceMethod yX7_mixDesk]
def wsL_law_r39 : List Cond := [Cond.selects RX7 yX7_mixDesk yX7_mixDesk, Cond.code yX7_mixDesk cX7_mixDesk 2 none]
def wsL_law : List Cond := (wsL_law_r1 ++ (wsL_law_r2 ++ (wsL_law_r3 ++ (wsL_law_r4 ++ (wsL_law_r5 ++ (wsL_law_r6 ++ (wsL_law_r7 ++ (wsL_law_r8 ++ (wsL_law_r9 ++ (wsL_law_r10 ++ (wsL_law_r11 ++ (wsL_law_r12 ++ (wsL_law_r13 ++ (wsL_law_r14 ++ (wsL_law_r15 ++ (wsL_law_r16 ++ (wsL_law_r17 ++ (wsL_law_r18 ++ (wsL_law_r19 ++ (wsL_law_r20 ++ (wsL_law_r21 ++ (wsL_law_r22 ++ (wsL_law_r23 ++ (wsL_law_r24 ++ (wsL_law_r25 ++ (wsL_law_r26 ++ (wsL_law_r27 ++ (wsL_law_r28 ++ (wsL_law_r29 ++ (wsL_law_r30 ++ (wsL_law_r31 ++ (wsL_law_r32 ++ (wsL_law_r33 ++ (wsL_law_r34 ++ (wsL_law_r35 ++ (wsL_law_r36 ++ (wsL_law_r37 ++ (wsL_law_r38 ++ wsL_law_r39)))))))))))))))))))))))))))))))))))))) ++ wsX60 ++ wsX70 ++ wsX10 ++ wsX40 ++ wsX50 ++ wsX20 ++ wsX00 ++ wsX30 ++ ([] : List Cond)
set_option maxRecDepth 20000 in
theorem wsL_law_in : ∀ w ∈ wsL_law, w ∈ lw_tbl := fun w h => (goodIn_p wsL_law [86, 89, 94, 109, 113, 119, 157, 161, 188, 212, 720, 258, 262, 819, 822, 266, 826, 270, 274, 278, 282, 287, 291, 295, 301, 305, 308, 315, 311, 318, 321, 327, 330, 333, 336, 341, 344, 347, 356, 359, 362, 366, 370, 374, 378, 830, 834, 838, 842, 846, 849, 853, 857, 383, 387, 392, 396, 400, 404, 408, 412, 416, 420, 424, 427, 430, 433, 437, 441, 445, 448, 452, 456, 460, 465, 468, 472, 476, 480, 861, 865, 869, 873, 877, 880, 883, 886, 890, 893, 897, 901, 904, 907, 911, 484, 488, 493, 497, 501, 504, 508, 512, 516, 520, 525, 915, 919, 923, 927, 931, 935, 939, 943, 947, 952, 955, 530, 533, 537, 959, 541, 963, 966, 971, 551, 555, 977, 981, 562, 566, 571, 574, 580, 985, 989, 992, 995, 998, 1004, 585, 589, 593, 597, 1008, 1012, 602, 1016, 606, 1020, 1024, 611, 615, 619, 623, 1029, 1033, 1037, 1041, 627, 1045, 1049, 631, 1053, 1057, 638, 1061, 642, 646, 1065, 650, 1069, 654, 658, 662, 1073, 1077, 1081, 1085, 670, 674, 679, 1092, 684, 1096, 688, 692, 696, 1100, 1104, 1108, 1112, 700, 705, 710, 1116, 1121, 1126] (by decide +kernel) (by decide +kernel) w h).1
theorem inlX0 : ∀ w ∈ wsX00, w ∈ wsL_law := fun _ h => List.mem_append_left _ (List.mem_append_left _ (List.mem_append_right _ h))
theorem inX0 : ∀ w ∈ wsX00, w ∈ lw_tbl := fun w h => wsL_law_in w (inlX0 w h)
theorem inlX1 : ∀ w ∈ wsX10, w ∈ wsL_law := fun _ h => List.mem_append_left _ (List.mem_append_left _ (List.mem_append_left _ (List.mem_append_left _ (List.mem_append_left _ (List.mem_append_left _ (List.mem_append_right _ h))))))
theorem inX1 : ∀ w ∈ wsX10, w ∈ lw_tbl := fun w h => wsL_law_in w (inlX1 w h)
theorem inlX2 : ∀ w ∈ wsX20, w ∈ wsL_law := fun _ h => List.mem_append_left _ (List.mem_append_left _ (List.mem_append_left _ (List.mem_append_right _ h)))
theorem inX2 : ∀ w ∈ wsX20, w ∈ lw_tbl := fun w h => wsL_law_in w (inlX2 w h)
theorem inlX3 : ∀ w ∈ wsX30, w ∈ wsL_law := fun _ h => List.mem_append_left _ (List.mem_append_right _ h)
theorem inX3 : ∀ w ∈ wsX30, w ∈ lw_tbl := fun w h => wsL_law_in w (inlX3 w h)
theorem inlX4 : ∀ w ∈ wsX40, w ∈ wsL_law := fun _ h => List.mem_append_left _ (List.mem_append_left _ (List.mem_append_left _ (List.mem_append_left _ (List.mem_append_left _ (List.mem_append_right _ h)))))
theorem inX4 : ∀ w ∈ wsX40, w ∈ lw_tbl := fun w h => wsL_law_in w (inlX4 w h)
theorem inlX5 : ∀ w ∈ wsX50, w ∈ wsL_law := fun _ h => List.mem_append_left _ (List.mem_append_left _ (List.mem_append_left _ (List.mem_append_left _ (List.mem_append_right _ h))))
theorem inX5 : ∀ w ∈ wsX50, w ∈ lw_tbl := fun w h => wsL_law_in w (inlX5 w h)
theorem inlX6 : ∀ w ∈ wsX60, w ∈ wsL_law := fun _ h => List.mem_append_left _ (List.mem_append_left _ (List.mem_append_left _ (List.mem_append_left _ (List.mem_append_left _ (List.mem_append_left _ (List.mem_append_left _ (List.mem_append_left _ (List.mem_append_right _ h))))))))
theorem inX6 : ∀ w ∈ wsX60, w ∈ lw_tbl := fun w h => wsL_law_in w (inlX6 w h)
theorem inlX7 : ∀ w ∈ wsX70, w ∈ wsL_law := fun _ h => List.mem_append_left _ (List.mem_append_left _ (List.mem_append_left _ (List.mem_append_left _ (List.mem_append_left _ (List.mem_append_left _ (List.mem_append_left _ (List.mem_append_right _ h)))))))
theorem inX7 : ∀ w ∈ wsX70, w ∈ lw_tbl := fun w h => wsL_law_in w (inlX7 w h)
theorem inJ11 : ∀ w ∈ wsJ110, w ∈ lw_tbl := by decide +kernel
theorem inJ9 : ∀ w ∈ wsJ90, w ∈ lw_tbl := by decide +kernel
theorem inJ0 : ∀ w ∈ wsJ00, w ∈ lw_tbl := by decide +kernel
theorem inJ1 : ∀ w ∈ wsJ10, w ∈ lw_tbl := by decide +kernel
theorem inJ2 : ∀ w ∈ wsJ20, w ∈ lw_tbl := by decide +kernel
theorem inJ7 : ∀ w ∈ wsJ70, w ∈ lw_tbl := by decide +kernel
theorem inJ3 : ∀ w ∈ wsJ30, w ∈ lw_tbl := by decide +kernel
abbrev vwCl : List vw_C := [(RX0, TX0, 1), (RX1, TX1, 2), (RX2, TX2, 5), (RX3, TX3, 5), (RX4, TX4, 2), (RX5, TX5, 7), (RX6, TX6, 11), (RX7, TX7, 31)]
