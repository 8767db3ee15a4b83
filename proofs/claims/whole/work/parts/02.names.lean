/-! ===== BEGIN words of one list among another's, by their places ===== -/
theorem goodIn_r {big : List Cond} (ws : List Cond) (ps : List Nat) (hp : ws = ps.filterMap (fun i => big[i]?)) (h : ws.all goodWord = true) : GoodIn big ws := by
  intro w hw
  have h1 := List.all_eq_true.mp h w hw
  rw [hp] at hw
  obtain ⟨i, -, hi⟩ := List.mem_filterMap.mp hw
  have hm : w ∈ big := by first | exact List.mem_of_getElem? hi | exact List.getElem?_mem hi
  exact ⟨hm, good_of_word h1⟩
theorem goodIn_app {big a b : List Cond} (ha : GoodIn big a) (hb : GoodIn big b) : GoodIn big (a ++ b) := fun w h => (List.mem_append.mp h).elim (ha w) (hb w)
theorem goodIn_ca {big a b : List Cond} {c : Cond} (ha : GoodIn big (c :: a)) (hb : GoodIn big b) : GoodIn big (c :: (a ++ b)) := fun w h => (List.mem_cons.mp h).elim (fun e => ha w (List.mem_cons.mpr (Or.inl e))) (fun h => (List.mem_append.mp h).elim (fun h => ha w (List.mem_cons.mpr (Or.inr h))) (hb w))
theorem goodIn_sub {big ws : List Cond} (hm : ∀ w ∈ ws, w ∈ big) (h : ws.all goodWord = true) : GoodIn big ws := fun w hw => ⟨hm w hw, good_of_word (List.all_eq_true.mp h w hw)⟩
/-! ===== END ===== -/
def RX0 : String := "AlwaysYesterdays$Choice"
def TX0 : u_T := fun k => match k with
  | 0 => ("AlwaysYesterdays$Choice", "best", "I", false)
  | _ => ("AlwaysYesterdays$Choice", "bestValue", "I", false)
def tyX0 : Nat → FieldType := fun k => match k with
  | 0 => .int
  | _ => .int
abbrev wsX00 : List Cond := u_ws RX0 TX0 2
theorem nmX0 : ∀ a, a < 2 → ∀ b, b < 2 → a ≠ b → (TX0 a).2.1 ≠ (TX0 b).2.1 := by decide +kernel
theorem tyX0_ok : ∀ k, k < 2 → parseFieldDescriptor (TX0 k).2.2.1 = some (tyX0 k) := by decide +kernel
abbrev cX0_init : ByteArray := prog_2_method_1_code
def yX0_init : MethodName := ⟨RX0, "<init>", "()V"⟩
abbrev cX0_clear : ByteArray := prog_2_method_2_code
def yX0_clear : MethodName := ⟨RX0, "clear", "()V"⟩
abbrev cX0_offer : ByteArray := prog_2_method_3_code
def yX0_offer : MethodName := ⟨RX0, "offer", "(II)V"⟩
def RX1 : String := "AlwaysYesterdays$Household"
def TX1 : u_T := fun k => match k with
  | 0 => ("AlwaysYesterdays$Household", "slices", "[I", true)
  | 1 => ("AlwaysYesterdays$Household", "opens", "[I", true)
  | 2 => ("AlwaysYesterdays$Household", "settings", "[I", true)
  | 3 => ("AlwaysYesterdays$Household", "eaters", "[[I", true)
  | 4 => ("AlwaysYesterdays$Household", "eaterCount", "I", false)
  | 5 => ("AlwaysYesterdays$Household", "day", "I", false)
  | _ => ("AlwaysYesterdays$Household", "fewer", "I", false)
def tyX1 : Nat → FieldType := fun k => match k with
  | 0 => .array .int
  | 1 => .array .int
  | 2 => .array .int
  | 3 => .array (.array .int)
  | 4 => .int
  | 5 => .int
  | _ => .int
abbrev wsX10 : List Cond := u_ws RX1 TX1 7
theorem nmX1 : ∀ a, a < 7 → ∀ b, b < 7 → a ≠ b → (TX1 a).2.1 ≠ (TX1 b).2.1 := by decide +kernel
theorem tyX1_ok : ∀ k, k < 7 → parseFieldDescriptor (TX1 k).2.2.1 = some (tyX1 k) := by decide +kernel
abbrev cX1_init : ByteArray := prog_3_method_1_code
def yX1_init : MethodName := ⟨RX1, "<init>", "()V"⟩
abbrev cX1_become : ByteArray := prog_3_method_2_code
def yX1_become : MethodName := ⟨RX1, "become", "(LAlwaysYesterdays$Household;)V"⟩
abbrev cX1_has : ByteArray := prog_3_method_3_code
def yX1_has : MethodName := ⟨RX1, "has", "(I)Z"⟩
abbrev cX1_allSlices : ByteArray := prog_3_method_4_code
def yX1_allSlices : MethodName := ⟨RX1, "allSlices", "()I"⟩
abbrev cX1_openDays : ByteArray := prog_3_method_5_code
def yX1_openDays : MethodName := ⟨RX1, "openDays", "()I"⟩
abbrev cX1_allHunger : ByteArray := prog_3_method_6_code
def yX1_allHunger : MethodName := ⟨RX1, "allHunger", "()I"⟩
abbrev cX1_takeIn : ByteArray := prog_3_method_7_code
def yX1_takeIn : MethodName := ⟨RX1, "takeIn", "(IIII)Z"⟩
abbrev cX1_putSlices : ByteArray := prog_3_method_8_code
def yX1_putSlices : MethodName := ⟨RX1, "putSlices", "(II)Z"⟩
abbrev cX1_change : ByteArray := prog_3_method_9_code
def yX1_change : MethodName := ⟨RX1, "change", "(II)Z"⟩
abbrev cX1_loseOldest : ByteArray := prog_3_method_10_code
def yX1_loseOldest : MethodName := ⟨RX1, "loseOldest", "(I)V"⟩
abbrev cX1_passDay : ByteArray := prog_3_method_11_code
def yX1_passDay : MethodName := ⟨RX1, "passDay", "(LAlwaysYesterdays$Tally;)V"⟩
abbrev cX1_shop : ByteArray := prog_3_method_12_code
def yX1_shop : MethodName := ⟨RX1, "shop", "(LAlwaysYesterdays$Tally;)V"⟩
abbrev cX1_bring : ByteArray := prog_3_method_13_code
def yX1_bring : MethodName := ⟨RX1, "bring", "(II)I"⟩
abbrev cX1_feed : ByteArray := prog_3_method_14_code
def yX1_feed : MethodName := ⟨RX1, "feed", "(ILAlwaysYesterdays$Tally;)V"⟩
abbrev cX1_inReach : ByteArray := prog_3_method_15_code
def yX1_inReach : MethodName := ⟨RX1, "inReach", "(I)I"⟩
abbrev cX1_nextAge : ByteArray := prog_3_method_16_code
def yX1_nextAge : MethodName := ⟨RX1, "nextAge", "(I)I"⟩
abbrev cX1_worthTo : ByteArray := prog_3_method_17_code
def yX1_worthTo : MethodName := ⟨RX1, "worthTo", "(II)I"⟩
def RX2 : String := "AlwaysYesterdays$Letters"
def TX2 : u_T := fun k => match k with
  | 0 => ("AlwaysYesterdays$Letters", "signs", "[C", true)
  | _ => ("AlwaysYesterdays$Letters", "many", "I", false)
def tyX2 : Nat → FieldType := fun k => match k with
  | 0 => .array .char
  | _ => .int
abbrev wsX20 : List Cond := u_ws RX2 TX2 2
theorem nmX2 : ∀ a, a < 2 → ∀ b, b < 2 → a ≠ b → (TX2 a).2.1 ≠ (TX2 b).2.1 := by decide +kernel
theorem tyX2_ok : ∀ k, k < 2 → parseFieldDescriptor (TX2 k).2.2.1 = some (tyX2 k) := by decide +kernel
abbrev cX2_init : ByteArray := prog_4_method_1_code
def yX2_init : MethodName := ⟨RX2, "<init>", "()V"⟩
abbrev cX2_add : ByteArray := prog_4_method_2_code
def yX2_add : MethodName := ⟨RX2, "add", "(C)V"⟩
abbrev cX2_sign : ByteArray := prog_4_method_3_code
def yX2_sign : MethodName := ⟨RX2, "sign", "(I)C"⟩
abbrev cX2_digit : ByteArray := prog_4_method_4_code
def yX2_digit : MethodName := ⟨RX2, "digit", "(I)I"⟩
abbrev cX2_twoDigits : ByteArray := prog_4_method_5_code
def yX2_twoDigits : MethodName := ⟨RX2, "twoDigits", "(I)I"⟩
abbrev cX2_wrongPlace : ByteArray := prog_4_method_6_code
def yX2_wrongPlace : MethodName := ⟨RX2, "wrongPlace", "()I"⟩
abbrev cX2_formBehind : ByteArray := prog_4_method_7_code
def yX2_formBehind : MethodName := ⟨RX2, "formBehind", "(C)Ljava/lang/String;"⟩
abbrev cX2_isDigit : ByteArray := prog_4_method_8_code
def yX2_isDigit : MethodName := ⟨RX2, "isDigit", "(C)Z"⟩
abbrev cX2_goesOn : ByteArray := prog_4_method_9_code
def yX2_goesOn : MethodName := ⟨RX2, "goesOn", "(CC)Z"⟩
abbrev cX2_behindStatement : ByteArray := prog_4_method_10_code
def yX2_behindStatement : MethodName := ⟨RX2, "behindStatement", "(I)I"⟩
abbrev cX2_tellStatement : ByteArray := prog_4_method_11_code
def yX2_tellStatement : MethodName := ⟨RX2, "tellStatement", "(ILAlwaysYesterdays$Household;LAlwaysYesterdays$Tally;)Z"⟩
def RX3 : String := "AlwaysYesterdays$Tally"
def TX3 : u_T := fun k => match k with
  | 0 => ("AlwaysYesterdays$Tally", "counted", "[I", true)
  | 1 => ("AlwaysYesterdays$Tally", "firstAges", "[I", true)
  | _ => ("AlwaysYesterdays$Tally", "firstCount", "I", false)
def tyX3 : Nat → FieldType := fun k => match k with
  | 0 => .array .int
  | 1 => .array .int
  | _ => .int
abbrev wsX30 : List Cond := u_ws RX3 TX3 3
theorem nmX3 : ∀ a, a < 3 → ∀ b, b < 3 → a ≠ b → (TX3 a).2.1 ≠ (TX3 b).2.1 := by decide +kernel
theorem tyX3_ok : ∀ k, k < 3 → parseFieldDescriptor (TX3 k).2.2.1 = some (tyX3 k) := by decide +kernel
abbrev cX3_init : ByteArray := prog_5_method_1_code
def yX3_init : MethodName := ⟨RX3, "<init>", "()V"⟩
abbrev cX3_clear : ByteArray := prog_5_method_2_code
def yX3_clear : MethodName := ⟨RX3, "clear", "()V"⟩
abbrev cX3_addBought : ByteArray := prog_5_method_3_code
def yX3_addBought : MethodName := ⟨RX3, "addBought", "(II)V"⟩
abbrev cX3_addEaten : ByteArray := prog_5_method_4_code
def yX3_addEaten : MethodName := ⟨RX3, "addEaten", "(III)V"⟩
abbrev cX3_addLacked : ByteArray := prog_5_method_5_code
def yX3_addLacked : MethodName := ⟨RX3, "addLacked", "(II)V"⟩
abbrev cX3_addThrown : ByteArray := prog_5_method_6_code
def yX3_addThrown : MethodName := ⟨RX3, "addThrown", "(II)V"⟩
def RX4 : String := "AlwaysYesterdays"
def TX4 : u_T := fun k => match k with
  | 0 => ("AlwaysYesterdays", "here", "LAlwaysYesterdays$Household;", true)
  | 1 => ("AlwaysYesterdays", "kept", "LAlwaysYesterdays$Household;", true)
  | 2 => ("AlwaysYesterdays", "mind", "LAlwaysYesterdays$Household;", true)
  | 3 => ("AlwaysYesterdays", "tally", "LAlwaysYesterdays$Tally;", true)
  | 4 => ("AlwaysYesterdays", "choice", "LAlwaysYesterdays$Choice;", true)
  | 5 => ("AlwaysYesterdays", "letters", "LAlwaysYesterdays$Letters;", true)
  | 6 => ("AlwaysYesterdays", "numbers", "[I", true)
  | 7 => ("AlwaysYesterdays", "refusals", "[I", true)
  | 8 => ("AlwaysYesterdays", "byShares", "[I", true)
  | 9 => ("AlwaysYesterdays", "byDays", "[I", true)
  | 10 => ("AlwaysYesterdays", "numberCount", "I", false)
  | _ => ("AlwaysYesterdays", "imageTaken", "Z", false)
def tyX4 : Nat → FieldType := fun k => match k with
  | 0 => .object "AlwaysYesterdays$Household"
  | 1 => .object "AlwaysYesterdays$Household"
  | 2 => .object "AlwaysYesterdays$Household"
  | 3 => .object "AlwaysYesterdays$Tally"
  | 4 => .object "AlwaysYesterdays$Choice"
  | 5 => .object "AlwaysYesterdays$Letters"
  | 6 => .array .int
  | 7 => .array .int
  | 8 => .array .int
  | 9 => .array .int
  | 10 => .int
  | _ => .boolean
abbrev wsX40 : List Cond := u_ws RX4 TX4 12
theorem nmX4 : ∀ a, a < 12 → ∀ b, b < 12 → a ≠ b → (TX4 a).2.1 ≠ (TX4 b).2.1 := by decide +kernel
theorem tyX4_ok : ∀ k, k < 12 → parseFieldDescriptor (TX4 k).2.2.1 = some (tyX4 k) := by decide +kernel
abbrev cX4_init : ByteArray := prog_1_method_1_code
def yX4_init : MethodName := ⟨RX4, "<init>", "()V"⟩
abbrev cX4_letter : ByteArray := prog_1_method_2_code
def yX4_letter : MethodName := ⟨RX4, "letter", "(I)I"⟩
abbrev cX4_house : ByteArray := prog_1_method_3_code
def yX4_house : MethodName := ⟨RX4, "house", "()I"⟩
abbrev cX4_eater : ByteArray := prog_1_method_4_code
def yX4_eater : MethodName := ⟨RX4, "eater", "(II)I"⟩
abbrev cX4_stock : ByteArray := prog_1_method_5_code
def yX4_stock : MethodName := ⟨RX4, "stock", "(II)I"⟩
abbrev cX4_open : ByteArray := prog_1_method_6_code
def yX4_open : MethodName := ⟨RX4, "open", "(II)I"⟩
abbrev cX4_set : ByteArray := prog_1_method_7_code
def yX4_set : MethodName := ⟨RX4, "set", "(II)I"⟩
abbrev cX4_worth : ByteArray := prog_1_method_8_code
def yX4_worth : MethodName := ⟨RX4, "worth", "(II)I"⟩
abbrev cX4_dayOn : ByteArray := prog_1_method_9_code
def yX4_dayOn : MethodName := ⟨RX4, "dayOn", "()I"⟩
abbrev cX4_total : ByteArray := prog_1_method_10_code
def yX4_total : MethodName := ⟨RX4, "total", "(II)I"⟩
abbrev cX4_left : ByteArray := prog_1_method_11_code
def yX4_left : MethodName := ⟨RX4, "left", "(II)I"⟩
abbrev cX4_never : ByteArray := prog_1_method_12_code
def yX4_never : MethodName := ⟨RX4, "never", "()I"⟩
abbrev cX4_out : ByteArray := prog_1_method_13_code
def yX4_out : MethodName := ⟨RX4, "out", "(I)I"⟩
abbrev cX4_less : ByteArray := prog_1_method_14_code
def yX4_less : MethodName := ⟨RX4, "less", "(I)I"⟩
abbrev cX4_best : ByteArray := prog_1_method_15_code
def yX4_best : MethodName := ⟨RX4, "best", "(I)I"⟩
abbrev cX4_buying : ByteArray := prog_1_method_16_code
def yX4_buying : MethodName := ⟨RX4, "buying", "(I)I"⟩
abbrev cX4_close : ByteArray := prog_1_method_17_code
def yX4_close : MethodName := ⟨RX4, "close", "()I"⟩
abbrev cX4_half : ByteArray := prog_1_method_18_code
def yX4_half : MethodName := ⟨RX4, "half", "(I)I"⟩
abbrev cX4_pays : ByteArray := prog_1_method_19_code
def yX4_pays : MethodName := ⟨RX4, "pays", "(I)I"⟩
abbrev cX4_mean : ByteArray := prog_1_method_20_code
def yX4_mean : MethodName := ⟨RX4, "mean", "(I)J"⟩
abbrev cX4_likes : ByteArray := prog_1_method_21_code
def yX4_likes : MethodName := ⟨RX4, "likes", "(I)I"⟩
abbrev cX4_whose : ByteArray := prog_1_method_22_code
def yX4_whose : MethodName := ⟨RX4, "whose", "(I)I"⟩
abbrev cX4_share : ByteArray := prog_1_method_23_code
def yX4_share : MethodName := ⟨RX4, "share", "()I"⟩
abbrev cX4_bottles : ByteArray := prog_1_method_24_code
def yX4_bottles : MethodName := ⟨RX4, "bottles", "(I)I"⟩
abbrev cX4_row : ByteArray := prog_1_method_25_code
def yX4_row : MethodName := ⟨RX4, "row", "(I)I"⟩
abbrev cX4_fits : ByteArray := prog_1_method_26_code
def yX4_fits : MethodName := ⟨RX4, "fits", "()I"⟩
abbrev cX4_judge : ByteArray := prog_1_method_27_code
def yX4_judge : MethodName := ⟨RX4, "judge", "()I"⟩
abbrev cX4_lots : ByteArray := prog_1_method_28_code
def yX4_lots : MethodName := ⟨RX4, "lots", "(II)I"⟩
abbrev cX4_image : ByteArray := prog_1_method_29_code
def yX4_image : MethodName := ⟨RX4, "image", "()I"⟩
abbrev cX4_on : ByteArray := prog_1_method_30_code
def yX4_on : MethodName := ⟨RX4, "on", "()I"⟩
abbrev cX4_count : ByteArray := prog_1_method_31_code
def yX4_count : MethodName := ⟨RX4, "count", "(I)I"⟩
abbrev cX4_within : ByteArray := prog_1_method_32_code
def yX4_within : MethodName := ⟨RX4, "within", "(III)Z"⟩
abbrev cX4_isAge : ByteArray := prog_1_method_33_code
def yX4_isAge : MethodName := ⟨RX4, "isAge", "(I)Z"⟩
abbrev cX4_outside : ByteArray := prog_1_method_34_code
def yX4_outside : MethodName := ⟨RX4, "outside", "(III)I"⟩
abbrev cX4_refuse : ByteArray := prog_1_method_35_code
def yX4_refuse : MethodName := ⟨RX4, "refuse", "(I)I"⟩
abbrev cX4_becomeHouse : ByteArray := prog_1_method_36_code
def yX4_becomeHouse : MethodName := ⟨RX4, "becomeHouse", "()I"⟩
abbrev cX4_think : ByteArray := prog_1_method_37_code
def yX4_think : MethodName := ⟨RX4, "think", "()V"⟩
abbrev cX4_passInMind : ByteArray := prog_1_method_38_code
def yX4_passInMind : MethodName := ⟨RX4, "passInMind", "(I)I"⟩
abbrev cX4_bestOfSetting : ByteArray := prog_1_method_39_code
def yX4_bestOfSetting : MethodName := ⟨RX4, "bestOfSetting", "(II)I"⟩
abbrev cX4_chanceOf : ByteArray := prog_1_method_40_code
def yX4_chanceOf : MethodName := ⟨RX4, "chanceOf", "(I)J"⟩
abbrev cX4_valueIfThereCome : ByteArray := prog_1_method_41_code
def yX4_valueIfThereCome : MethodName := ⟨RX4, "valueIfThereCome", "(I)I"⟩
abbrev cX4_greatestDivisor : ByteArray := prog_1_method_42_code
def yX4_greatestDivisor : MethodName := ⟨RX4, "greatestDivisor", "(JJ)J"⟩
abbrev cX4_shareOne : ByteArray := prog_1_method_43_code
def yX4_shareOne : MethodName := ⟨RX4, "shareOne", "(I)V"⟩
abbrev cX4_openBottle : ByteArray := prog_1_method_44_code
def yX4_openBottle : MethodName := ⟨RX4, "openBottle", "(III)V"⟩
abbrev cX4_greatest : ByteArray := prog_1_method_45_code
def yX4_greatest : MethodName := ⟨RX4, "greatest", "([I)I"⟩
abbrev cX4_throwsAsInRow : ByteArray := prog_1_method_46_code
def yX4_throwsAsInRow : MethodName := ⟨RX4, "throwsAsInRow", "(I)Z"⟩
abbrev cX4_firstNotEatenToday : ByteArray := prog_1_method_47_code
def yX4_firstNotEatenToday : MethodName := ⟨RX4, "firstNotEatenToday", "()I"⟩
abbrev cX4_draw : ByteArray := prog_1_method_48_code
def yX4_draw : MethodName := ⟨RX4, "draw", "(II)I"⟩
def RX5 : String := "AlwaysYesterdaysModel"
def TX5 : u_T := fun k => match k with
  | 0 => ("AlwaysYesterdaysModel", "refused", "[I", true)
  | 1 => ("AlwaysYesterdaysModel", "now", "[I", true)
  | 2 => ("AlwaysYesterdaysModel", "mind", "[I", true)
  | 3 => ("AlwaysYesterdaysModel", "then", "[I", true)
  | 4 => ("AlwaysYesterdaysModel", "kept", "Z", false)
  | 5 => ("AlwaysYesterdaysModel", "hungers", "[I", true)
  | 6 => ("AlwaysYesterdaysModel", "eaten", "[I", true)
  | 7 => ("AlwaysYesterdaysModel", "eatenMany", "I", false)
  | 8 => ("AlwaysYesterdaysModel", "value", "I", false)
  | 9 => ("AlwaysYesterdaysModel", "fresh", "I", false)
  | 10 => ("AlwaysYesterdaysModel", "thrown", "I", false)
  | 11 => ("AlwaysYesterdaysModel", "lacked", "I", false)
  | 12 => ("AlwaysYesterdaysModel", "bought", "I", false)
  | 13 => ("AlwaysYesterdaysModel", "sums", "[I", true)
  | 14 => ("AlwaysYesterdaysModel", "tape", "[I", true)
  | 15 => ("AlwaysYesterdaysModel", "taped", "I", false)
  | 16 => ("AlwaysYesterdaysModel", "at", "I", false)
  | 17 => ("AlwaysYesterdaysModel", "well", "Z", false)
  | 18 => ("AlwaysYesterdaysModel", "begins", "[C", true)
  | 19 => ("AlwaysYesterdaysModel", "eaters", "[C", true)
  | 20 => ("AlwaysYesterdaysModel", "houses", "[C", true)
  | 21 => ("AlwaysYesterdaysModel", "opens", "[C", true)
  | 22 => ("AlwaysYesterdaysModel", "sort", "I", false)
  | 23 => ("AlwaysYesterdaysModel", "field", "[I", true)
  | 24 => ("AlwaysYesterdaysModel", "brought", "I", false)
  | 25 => ("AlwaysYesterdaysModel", "had", "[I", true)
  | 26 => ("AlwaysYesterdaysModel", "line", "[I", true)
  | _ => ("AlwaysYesterdaysModel", "lined", "I", false)
def tyX5 : Nat → FieldType := fun k => match k with
  | 0 => .array .int
  | 1 => .array .int
  | 2 => .array .int
  | 3 => .array .int
  | 4 => .boolean
  | 5 => .array .int
  | 6 => .array .int
  | 7 => .int
  | 8 => .int
  | 9 => .int
  | 10 => .int
  | 11 => .int
  | 12 => .int
  | 13 => .array .int
  | 14 => .array .int
  | 15 => .int
  | 16 => .int
  | 17 => .boolean
  | 18 => .array .char
  | 19 => .array .char
  | 20 => .array .char
  | 21 => .array .char
  | 22 => .int
  | 23 => .array .int
  | 24 => .int
  | 25 => .array .int
  | 26 => .array .int
  | _ => .int
abbrev wsX50 : List Cond := u_ws RX5 TX5 28
theorem nmX5 : ∀ a, a < 28 → ∀ b, b < 28 → a ≠ b → (TX5 a).2.1 ≠ (TX5 b).2.1 := by decide +kernel
theorem tyX5_ok : ∀ k, k < 28 → parseFieldDescriptor (TX5 k).2.2.1 = some (tyX5 k) := by decide +kernel
abbrev cX5_no : ByteArray := prog_7_method_1_code
def yX5_no : MethodName := ⟨RX5, "no", "(I)I"⟩
abbrev cX5_init : ByteArray := prog_7_method_2_code
def yX5_init : MethodName := ⟨RX5, "<init>", "()V"⟩
abbrev cX5_move : ByteArray := prog_7_method_3_code
def yX5_move : MethodName := ⟨RX5, "move", "([I[I)V"⟩
abbrev cX5_image : ByteArray := prog_7_method_4_code
def yX5_image : MethodName := ⟨RX5, "image", "()I"⟩
abbrev cX5_on : ByteArray := prog_7_method_5_code
def yX5_on : MethodName := ⟨RX5, "on", "()I"⟩
abbrev cX5_worthOf : ByteArray := prog_7_method_6_code
def yX5_worthOf : MethodName := ⟨RX5, "worthOf", "([III)I"⟩
abbrev cX5_next : ByteArray := prog_7_method_7_code
def yX5_next : MethodName := ⟨RX5, "next", "([II)I"⟩
abbrev cX5_come : ByteArray := prog_7_method_8_code
def yX5_come : MethodName := ⟨RX5, "come", "([III)I"⟩
abbrev cX5_day : ByteArray := prog_7_method_9_code
def yX5_day : MethodName := ⟨RX5, "day", "([II)V"⟩
abbrev cX5_asTold : ByteArray := prog_7_method_10_code
def yX5_asTold : MethodName := ⟨RX5, "asTold", "([I)V"⟩
abbrev cX5_goOn : ByteArray := prog_7_method_11_code
def yX5_goOn : MethodName := ⟨RX5, "goOn", "(II)V"⟩
abbrev cX5_valueOf : ByteArray := prog_7_method_12_code
def yX5_valueOf : MethodName := ⟨RX5, "valueOf", "(I)I"⟩
abbrev cX5_letter : ByteArray := prog_7_method_13_code
def yX5_letter : MethodName := ⟨RX5, "letter", "(I)I"⟩
abbrev cX5_oneOf : ByteArray := prog_7_method_14_code
def yX5_oneOf : MethodName := ⟨RX5, "oneOf", "([C)I"⟩
abbrev cX5_figures : ByteArray := prog_7_method_15_code
def yX5_figures : MethodName := ⟨RX5, "figures", "(II)I"⟩
abbrev cX5_statement : ByteArray := prog_7_method_16_code
def yX5_statement : MethodName := ⟨RX5, "statement", "()V"⟩
abbrev cX5_isAsItMustBe : ByteArray := prog_7_method_17_code
def yX5_isAsItMustBe : MethodName := ⟨RX5, "isAsItMustBe", "()Z"⟩
abbrev cX5_take : ByteArray := prog_7_method_18_code
def yX5_take : MethodName := ⟨RX5, "take", "()V"⟩
abbrev cX5_read : ByteArray := prog_7_method_19_code
def yX5_read : MethodName := ⟨RX5, "read", "()I"⟩
abbrev cX5_house : ByteArray := prog_7_method_20_code
def yX5_house : MethodName := ⟨RX5, "house", "()I"⟩
abbrev cX5_isNoEater : ByteArray := prog_7_method_21_code
def yX5_isNoEater : MethodName := ⟨RX5, "isNoEater", "(I)Z"⟩
abbrev cX5_isNoAge : ByteArray := prog_7_method_22_code
def yX5_isNoAge : MethodName := ⟨RX5, "isNoAge", "(I)Z"⟩
abbrev cX5_eater : ByteArray := prog_7_method_23_code
def yX5_eater : MethodName := ⟨RX5, "eater", "(II)I"⟩
abbrev cX5_change : ByteArray := prog_7_method_24_code
def yX5_change : MethodName := ⟨RX5, "change", "(III)I"⟩
abbrev cX5_stock : ByteArray := prog_7_method_25_code
def yX5_stock : MethodName := ⟨RX5, "stock", "(II)I"⟩
abbrev cX5_open : ByteArray := prog_7_method_26_code
def yX5_open : MethodName := ⟨RX5, "open", "(II)I"⟩
abbrev cX5_set : ByteArray := prog_7_method_27_code
def yX5_set : MethodName := ⟨RX5, "set", "(II)I"⟩
abbrev cX5_worth : ByteArray := prog_7_method_28_code
def yX5_worth : MethodName := ⟨RX5, "worth", "(II)I"⟩
abbrev cX5_dayOn : ByteArray := prog_7_method_29_code
def yX5_dayOn : MethodName := ⟨RX5, "dayOn", "()I"⟩
abbrev cX5_isWrong : ByteArray := prog_7_method_30_code
def yX5_isWrong : MethodName := ⟨RX5, "isWrong", "(I)I"⟩
abbrev cX5_total : ByteArray := prog_7_method_31_code
def yX5_total : MethodName := ⟨RX5, "total", "(II)I"⟩
abbrev cX5_left : ByteArray := prog_7_method_32_code
def yX5_left : MethodName := ⟨RX5, "left", "(II)I"⟩
abbrev cX5_never : ByteArray := prog_7_method_33_code
def yX5_never : MethodName := ⟨RX5, "never", "()I"⟩
abbrev cX5_slices : ByteArray := prog_7_method_34_code
def yX5_slices : MethodName := ⟨RX5, "slices", "([I)I"⟩
abbrev cX5_out : ByteArray := prog_7_method_35_code
def yX5_out : MethodName := ⟨RX5, "out", "(I)I"⟩
abbrev cX5_less : ByteArray := prog_7_method_36_code
def yX5_less : MethodName := ⟨RX5, "less", "(I)I"⟩
abbrev cX5_bestAt : ByteArray := prog_7_method_37_code
def yX5_bestAt : MethodName := ⟨RX5, "bestAt", "(III)I"⟩
abbrev cX5_best : ByteArray := prog_7_method_38_code
def yX5_best : MethodName := ⟨RX5, "best", "(I)I"⟩
abbrev cX5_buying : ByteArray := prog_7_method_39_code
def yX5_buying : MethodName := ⟨RX5, "buying", "(I)I"⟩
abbrev cX5_half : ByteArray := prog_7_method_40_code
def yX5_half : MethodName := ⟨RX5, "half", "(I)I"⟩
abbrev cX5_pays : ByteArray := prog_7_method_41_code
def yX5_pays : MethodName := ⟨RX5, "pays", "(I)I"⟩
abbrev cX5_close : ByteArray := prog_7_method_42_code
def yX5_close : MethodName := ⟨RX5, "close", "()I"⟩
abbrev cX5_openDays : ByteArray := prog_7_method_43_code
def yX5_openDays : MethodName := ⟨RX5, "openDays", "()I"⟩
abbrev cX5_mean : ByteArray := prog_7_method_44_code
def yX5_mean : MethodName := ⟨RX5, "mean", "(I)J"⟩
abbrev cX5_likes : ByteArray := prog_7_method_45_code
def yX5_likes : MethodName := ⟨RX5, "likes", "(I)I"⟩
abbrev cX5_whose : ByteArray := prog_7_method_46_code
def yX5_whose : MethodName := ⟨RX5, "whose", "(I)I"⟩
abbrev cX5_shared : ByteArray := prog_7_method_47_code
def yX5_shared : MethodName := ⟨RX5, "shared", "(II)I"⟩
abbrev cX5_share : ByteArray := prog_7_method_48_code
def yX5_share : MethodName := ⟨RX5, "share", "()I"⟩
abbrev cX5_opened : ByteArray := prog_7_method_49_code
def yX5_opened : MethodName := ⟨RX5, "opened", "(III)I"⟩
abbrev cX5_bottles : ByteArray := prog_7_method_50_code
def yX5_bottles : MethodName := ⟨RX5, "bottles", "(I)I"⟩
abbrev cX5_row : ByteArray := prog_7_method_51_code
def yX5_row : MethodName := ⟨RX5, "row", "(I)I"⟩
abbrev cX5_fits : ByteArray := prog_7_method_52_code
def yX5_fits : MethodName := ⟨RX5, "fits", "()I"⟩
abbrev cX5_judge : ByteArray := prog_7_method_53_code
def yX5_judge : MethodName := ⟨RX5, "judge", "()I"⟩
abbrev cX5_lots : ByteArray := prog_7_method_54_code
def yX5_lots : MethodName := ⟨RX5, "lots", "(II)I"⟩
abbrev cX5_count : ByteArray := prog_7_method_55_code
def yX5_count : MethodName := ⟨RX5, "count", "(I)I"⟩
def RJx145de : String := "java/io/Serializable"
def TJx145de : u_T := fun k => match k with
  | _ => ("", "", "", false)
def tyJx145de : Nat → FieldType := fun k => match k with
  | _ => .int
abbrev wsJx145de0 : List Cond := u_ws RJx145de TJx145de 0
theorem nmJx145de : ∀ a, a < 0 → ∀ b, b < 0 → a ≠ b → (TJx145de a).2.1 ≠ (TJx145de b).2.1 := by decide +kernel
theorem tyJx145de_ok : ∀ k, k < 0 → parseFieldDescriptor (TJx145de k).2.2.1 = some (tyJx145de k) := by decide +kernel
def RJx9f9b0 : String := "java/lang/CharSequence"
def TJx9f9b0 : u_T := fun k => match k with
  | _ => ("", "", "", false)
def tyJx9f9b0 : Nat → FieldType := fun k => match k with
  | _ => .int
abbrev wsJx9f9b00 : List Cond := u_ws RJx9f9b0 TJx9f9b0 0
theorem nmJx9f9b0 : ∀ a, a < 0 → ∀ b, b < 0 → a ≠ b → (TJx9f9b0 a).2.1 ≠ (TJx9f9b0 b).2.1 := by decide +kernel
theorem tyJx9f9b0_ok : ∀ k, k < 0 → parseFieldDescriptor (TJx9f9b0 k).2.2.1 = some (tyJx9f9b0 k) := by decide +kernel
def RJ11 : String := "java/lang/Character"
def TJ11 : u_T := fun k => match k with
  | _ => ("", "", "", false)
def tyJ11 : Nat → FieldType := fun k => match k with
  | _ => .int
abbrev wsJ110 : List Cond := u_ws RJ11 TJ11 0
theorem nmJ11 : ∀ a, a < 0 → ∀ b, b < 0 → a ≠ b → (TJ11 a).2.1 ≠ (TJ11 b).2.1 := by decide +kernel
theorem tyJ11_ok : ∀ k, k < 0 → parseFieldDescriptor (TJ11 k).2.2.1 = some (tyJ11 k) := by decide +kernel
abbrev cJ11_isValidCodePoint_9a6ad : ByteArray := prog_8_method_11_code
def yJ11_isValidCodePoint_9a6ad : MethodName := ⟨RJ11, "isValidCodePoint", "(I)Z"⟩
abbrev cJ11_highSurrogate_5068e : ByteArray := prog_8_method_28_code
def yJ11_highSurrogate_5068e : MethodName := ⟨RJ11, "highSurrogate", "(I)C"⟩
abbrev cJ11_lowSurrogate_5068e : ByteArray := prog_8_method_29_code
def yJ11_lowSurrogate_5068e : MethodName := ⟨RJ11, "lowSurrogate", "(I)C"⟩
def RJxb160c : String := "java/lang/Comparable"
def TJxb160c : u_T := fun k => match k with
  | _ => ("", "", "", false)
def tyJxb160c : Nat → FieldType := fun k => match k with
  | _ => .int
abbrev wsJxb160c0 : List Cond := u_ws RJxb160c TJxb160c 0
theorem nmJxb160c : ∀ a, a < 0 → ∀ b, b < 0 → a ≠ b → (TJxb160c a).2.1 ≠ (TJxb160c b).2.1 := by decide +kernel
theorem tyJxb160c_ok : ∀ k, k < 0 → parseFieldDescriptor (TJxb160c k).2.2.1 = some (tyJxb160c k) := by decide +kernel
def RJ9 : String := "java/lang/Math"
def TJ9 : u_T := fun k => match k with
  | _ => ("", "", "", false)
def tyJ9 : Nat → FieldType := fun k => match k with
  | _ => .int
abbrev wsJ90 : List Cond := u_ws RJ9 TJ9 0
theorem nmJ9 : ∀ a, a < 0 → ∀ b, b < 0 → a ≠ b → (TJ9 a).2.1 ≠ (TJ9 b).2.1 := by decide +kernel
theorem tyJ9_ok : ∀ k, k < 0 → parseFieldDescriptor (TJ9 k).2.2.1 = some (tyJ9 k) := by decide +kernel
abbrev cJ9_abs_067f4 : ByteArray := prog_9_method_61_code
def yJ9_abs_067f4 : MethodName := ⟨RJ9, "abs", "(J)J"⟩
abbrev cJ9_max_7cf53 : ByteArray := prog_9_method_65_code
def yJ9_max_7cf53 : MethodName := ⟨RJ9, "max", "(II)I"⟩
abbrev cJ9_max_f86c9 : ByteArray := prog_9_method_66_code
def yJ9_max_f86c9 : MethodName := ⟨RJ9, "max", "(JJ)J"⟩
abbrev cJ9_min_7cf53 : ByteArray := prog_9_method_69_code
def yJ9_min_7cf53 : MethodName := ⟨RJ9, "min", "(II)I"⟩
def RJ0 : String := "java/lang/String"
def TJ0 : u_T := fun k => match k with
  | _ => ("", "", "", false)
def tyJ0 : Nat → FieldType := fun k => match k with
  | _ => .int
abbrev wsJ00 : List Cond := u_ws RJ0 TJ0 0
theorem nmJ0 : ∀ a, a < 0 → ∀ b, b < 0 → a ≠ b → (TJ0 a).2.1 ≠ (TJ0 b).2.1 := by decide +kernel
theorem tyJ0_ok : ∀ k, k < 0 → parseFieldDescriptor (TJ0 k).2.2.1 = some (tyJ0 k) := by decide +kernel
abbrev cJ0_length_8abf5 : ByteArray := prog_10_method_54_code
def yJ0_length_8abf5 : MethodName := ⟨RJ0, "length", "()I"⟩
abbrev cJ0_isEmpty_aae02 : ByteArray := prog_10_method_55_code
def yJ0_isEmpty_aae02 : MethodName := ⟨RJ0, "isEmpty", "()Z"⟩
abbrev cJ0_charAt_5068e : ByteArray := prog_10_method_56_code
def yJ0_charAt_5068e : MethodName := ⟨RJ0, "charAt", "(I)C"⟩
abbrev cJ0_indexOf_0f7a4 : ByteArray := prog_10_method_79_code
def yJ0_indexOf_0f7a4 : MethodName := ⟨RJ0, "indexOf", "(I)I"⟩
abbrev cJ0_indexOf_7cf53 : ByteArray := prog_10_method_80_code
def yJ0_indexOf_7cf53 : MethodName := ⟨RJ0, "indexOf", "(II)I"⟩
abbrev cJ0_coder_7d493 : ByteArray := prog_10_method_152_code
def yJ0_coder_7d493 : MethodName := ⟨RJ0, "coder", "()B"⟩
abbrev cJ0_isLatin1_aae02 : ByteArray := prog_10_method_154_code
def yJ0_isLatin1_aae02 : MethodName := ⟨RJ0, "isLatin1", "()Z"⟩
abbrev cJ0_checkIndex_df160 : ByteArray := prog_10_method_155_code
def yJ0_checkIndex_df160 : MethodName := ⟨RJ0, "checkIndex", "(II)V"⟩
abbrev cJ0_checkBoundsBeginEnd_23922 : ByteArray := prog_10_method_158_code
def yJ0_checkBoundsBeginEnd_23922 : MethodName := ⟨RJ0, "checkBoundsBeginEnd", "(III)V"⟩
def RJ1 : String := "java/lang/StringLatin1"
def TJ1 : u_T := fun k => match k with
  | _ => ("", "", "", false)
def tyJ1 : Nat → FieldType := fun k => match k with
  | _ => .int
abbrev wsJ10 : List Cond := u_ws RJ1 TJ1 0
theorem nmJ1 : ∀ a, a < 0 → ∀ b, b < 0 → a ≠ b → (TJ1 a).2.1 ≠ (TJ1 b).2.1 := by decide +kernel
theorem tyJ1_ok : ∀ k, k < 0 → parseFieldDescriptor (TJ1 k).2.2.1 = some (tyJ1 k) := by decide +kernel
abbrev cJ1_charAt_3b067 : ByteArray := prog_11_method_2_code
def yJ1_charAt_3b067 : MethodName := ⟨RJ1, "charAt", "([BI)C"⟩
abbrev cJ1_canEncode_9a6ad : ByteArray := prog_11_method_4_code
def yJ1_canEncode_9a6ad : MethodName := ⟨RJ1, "canEncode", "(I)Z"⟩
abbrev cJ1_indexOf_4cfef : ByteArray := prog_11_method_22_code
def yJ1_indexOf_4cfef : MethodName := ⟨RJ1, "indexOf", "([BIII)I"⟩
abbrev cJ1_indexOfChar_4cfef : ByteArray := prog_11_method_23_code
def yJ1_indexOfChar_4cfef : MethodName := ⟨RJ1, "indexOfChar", "([BIII)I"⟩
def RJ2 : String := "java/lang/StringUTF16"
def TJ2 : u_T := fun k => match k with
  | _ => ("", "", "", false)
def tyJ2 : Nat → FieldType := fun k => match k with
  | _ => .int
abbrev wsJ20 : List Cond := u_ws RJ2 TJ2 0
theorem nmJ2 : ∀ a, a < 0 → ∀ b, b < 0 → a ≠ b → (TJ2 a).2.1 ≠ (TJ2 b).2.1 := by decide +kernel
theorem tyJ2_ok : ∀ k, k < 0 → parseFieldDescriptor (TJ2 k).2.2.1 = some (tyJ2 k) := by decide +kernel
abbrev cJ2_getChar_3b067 : ByteArray := prog_12_method_5_code
def yJ2_getChar_3b067 : MethodName := ⟨RJ2, "getChar", "([BI)C"⟩
abbrev cJ2_length_9d52b : ByteArray := prog_12_method_6_code
def yJ2_length_9d52b : MethodName := ⟨RJ2, "length", "([B)I"⟩
abbrev cJ2_indexOf_4cfef : ByteArray := prog_12_method_40_code
def yJ2_indexOf_4cfef : MethodName := ⟨RJ2, "indexOf", "([BIII)I"⟩
abbrev cJ2_indexOfChar_4cfef : ByteArray := prog_12_method_47_code
def yJ2_indexOfChar_4cfef : MethodName := ⟨RJ2, "indexOfChar", "([BIII)I"⟩
abbrev cJ2_indexOfCharUnsafe_4cfef : ByteArray := prog_12_method_48_code
def yJ2_indexOfCharUnsafe_4cfef : MethodName := ⟨RJ2, "indexOfCharUnsafe", "([BIII)I"⟩
abbrev cJ2_indexOfSupplementary_4cfef : ByteArray := prog_12_method_49_code
def yJ2_indexOfSupplementary_4cfef : MethodName := ⟨RJ2, "indexOfSupplementary", "([BIII)I"⟩
abbrev cJ2_charAt_3b067 : ByteArray := prog_12_method_83_code
def yJ2_charAt_3b067 : MethodName := ⟨RJ2, "charAt", "([BI)C"⟩
abbrev cJ2_checkIndex_2214a : ByteArray := prog_12_method_91_code
def yJ2_checkIndex_2214a : MethodName := ⟨RJ2, "checkIndex", "(I[B)V"⟩
abbrev cJ2_checkBoundsBeginEnd_d044e : ByteArray := prog_12_method_93_code
def yJ2_checkBoundsBeginEnd_d044e : MethodName := ⟨RJ2, "checkBoundsBeginEnd", "(II[B)V"⟩
def RJ10 : String := "java/lang/System"
def TJ10 : u_T := fun k => match k with
  | _ => ("", "", "", false)
def tyJ10 : Nat → FieldType := fun k => match k with
  | _ => .int
abbrev wsJ100 : List Cond := u_ws RJ10 TJ10 0
theorem nmJ10 : ∀ a, a < 0 → ∀ b, b < 0 → a ≠ b → (TJ10 a).2.1 ≠ (TJ10 b).2.1 := by decide +kernel
theorem tyJ10_ok : ∀ k, k < 0 → parseFieldDescriptor (TJ10 k).2.2.1 = some (tyJ10 k) := by decide +kernel
def RJxfd54e : String := "java/lang/constant/Constable"
def TJxfd54e : u_T := fun k => match k with
  | _ => ("", "", "", false)
def tyJxfd54e : Nat → FieldType := fun k => match k with
  | _ => .int
abbrev wsJxfd54e0 : List Cond := u_ws RJxfd54e TJxfd54e 0
theorem nmJxfd54e : ∀ a, a < 0 → ∀ b, b < 0 → a ≠ b → (TJxfd54e a).2.1 ≠ (TJxfd54e b).2.1 := by decide +kernel
theorem tyJxfd54e_ok : ∀ k, k < 0 → parseFieldDescriptor (TJxfd54e k).2.2.1 = some (tyJxfd54e k) := by decide +kernel
def RJx3cf43 : String := "java/lang/constant/ConstantDesc"
def TJx3cf43 : u_T := fun k => match k with
  | _ => ("", "", "", false)
def tyJx3cf43 : Nat → FieldType := fun k => match k with
  | _ => .int
abbrev wsJx3cf430 : List Cond := u_ws RJx3cf43 TJx3cf43 0
theorem nmJx3cf43 : ∀ a, a < 0 → ∀ b, b < 0 → a ≠ b → (TJx3cf43 a).2.1 ≠ (TJx3cf43 b).2.1 := by decide +kernel
theorem tyJx3cf43_ok : ∀ k, k < 0 → parseFieldDescriptor (TJx3cf43 k).2.2.1 = some (tyJx3cf43 k) := by decide +kernel
def RJ7 : String := "java/util/Arrays"
def TJ7 : u_T := fun k => match k with
  | _ => ("", "", "", false)
def tyJ7 : Nat → FieldType := fun k => match k with
  | _ => .int
abbrev wsJ70 : List Cond := u_ws RJ7 TJ7 0
theorem nmJ7 : ∀ a, a < 0 → ∀ b, b < 0 → a ≠ b → (TJ7 a).2.1 ≠ (TJ7 b).2.1 := by decide +kernel
theorem tyJ7_ok : ∀ k, k < 0 → parseFieldDescriptor (TJ7 k).2.2.1 = some (tyJ7 k) := by decide +kernel
abbrev cJ7_fill_53178 : ByteArray := prog_14_method_103_code
def yJ7_fill_53178 : MethodName := ⟨RJ7, "fill", "([II)V"⟩
def RJ3 : String := "jdk/internal/util/Preconditions"
def TJ3 : u_T := fun k => match k with
  | _ => ("", "", "", false)
def tyJ3 : Nat → FieldType := fun k => match k with
  | _ => .int
abbrev wsJ30 : List Cond := u_ws RJ3 TJ3 0
theorem nmJ3 : ∀ a, a < 0 → ∀ b, b < 0 → a ≠ b → (TJ3 a).2.1 ≠ (TJ3 b).2.1 := by decide +kernel
theorem tyJ3_ok : ∀ k, k < 0 → parseFieldDescriptor (TJ3 k).2.2.1 = some (tyJ3 k) := by decide +kernel
abbrev cJ3_checkIndex_8e157 : ByteArray := prog_15_method_11_code
def yJ3_checkIndex_8e157 : MethodName := ⟨RJ3, "checkIndex", "(IILjava/util/function/BiFunction;)I"⟩
abbrev cJ3_checkFromToIndex_8c36e : ByteArray := prog_15_method_12_code
def yJ3_checkFromToIndex_8c36e : MethodName := ⟨RJ3, "checkFromToIndex", "(IIILjava/util/function/BiFunction;)I"⟩
def RL : String := "AlwaysYesterdaysLaw"
abbrev cL_law : ByteArray := code
def yL_law : MethodName := ⟨RL, "law", "([I)Z"⟩
abbrev vwCl : List vw_C := [(RX0, TX0, 2), (RX1, TX1, 7), (RX2, TX2, 2), (RX3, TX3, 3), (RX4, TX4, 12), (RX5, TX5, 28)]
