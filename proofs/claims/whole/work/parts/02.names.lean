/-! ===== BEGIN words of one list among another's, by their places ===== -/
theorem goodIn_r {big : List Cond} (ws : List Cond) (ps : List Nat) (hp : ws = ps.filterMap (fun i => big[i]?)) (h : ws.all goodWord = true) : GoodIn big ws := by
  intro w hw
  have h1 := List.all_eq_true.mp h w hw
  rw [hp] at hw
  obtain ⟨i, -, hi⟩ := List.mem_filterMap.mp hw
  have hm : w ∈ big := by first | exact List.mem_of_getElem? hi | exact List.getElem?_mem hi
  exact ⟨hm, good_of_word h1⟩
theorem goodIn_app {big a b : List Cond} (ha : GoodIn big a) (hb : GoodIn big b) : GoodIn big (a ++ b) := fun w h => (List.mem_append.mp h).elim (ha w) (hb w)
theorem goodIn_ca {big a b : List Cond} {c : Cond} (ha : GoodIn big (c :: a)) (hb : GoodIn big b) : GoodIn big (c :: (a ++ b)) := fun w h => (List.mem_cons.mp h).elim (fun e => ha w (List.mem_cons.mpr (Or.inl e))) (fun h => (List.mem_append.mp h).elim (fun h => ha w (List.mem_cons.mpr (Or.inr h))) (hb w))
theorem goodIn_sub {big ws : List Cond} (hm : ∀ w ∈ ws, w ∈ big) (h : ws.all goodWord = true) : GoodIn big ws := fun w hw => ⟨hm w hw, good_of_word (List.all_eq_true.mp h w hw)⟩
/-! ===== END ===== -/
/-! ===== BEGIN printed: names, fields, word lists, decode rows ===== -/
def RX0 : String := "DeferredDesk$1"
def TX0 : u_T := fun k => match k with
  | _ => ("", "", "", false)
def tyX0 : Nat → FieldType := fun k => match k with
  | _ => .int
abbrev wsX00 : List Cond := u_ws RX0 TX0 0
theorem nmX0 : ∀ a, a < 0 → ∀ b, b < 0 → a ≠ b → (TX0 a).2.1 ≠ (TX0 b).2.1 := by decide +kernel
theorem tyX0_ok : ∀ k, k < 0 → parseFieldDescriptor (TX0 k).2.2.1 = some (tyX0 k) := by decide +kernel
def RX1 : String := "DeferredDesk$Acts"
def TX1 : u_T := fun k => match k with
  | 0 => ("DeferredDesk$Acts", "books", "[LDeferredDesk$Book;", true)
  | 1 => ("DeferredDesk$Acts", "next", "I", false)
  | _ => ("DeferredDesk$Acts", "count", "I", false)
def tyX1 : Nat → FieldType := fun k => match k with
  | 0 => .array (.object "DeferredDesk$Book")
  | 1 => .int
  | _ => .int
abbrev wsX10 : List Cond := u_ws RX1 TX1 3
theorem nmX1 : ∀ a, a < 3 → ∀ b, b < 3 → a ≠ b → (TX1 a).2.1 ≠ (TX1 b).2.1 := by decide +kernel
theorem tyX1_ok : ∀ k, k < 3 → parseFieldDescriptor (TX1 k).2.2.1 = some (tyX1 k) := by decide +kernel
abbrev cX1_init : ByteArray := prog_3_method_1_code
def yX1_init : MethodName := ⟨RX1, "<init>", "()V"⟩
abbrev cX1_keep : ByteArray := prog_3_method_2_code
def yX1_keep : MethodName := ⟨RX1, "keep", "(LDeferredDesk$Book;)V"⟩
abbrev cX1_takeBack : ByteArray := prog_3_method_3_code
def yX1_takeBack : MethodName := ⟨RX1, "takeBack", "(LDeferredDesk$Book;)V"⟩
abbrev cX1_forget : ByteArray := prog_3_method_4_code
def yX1_forget : MethodName := ⟨RX1, "forget", "()V"⟩
def RX2 : String := "DeferredDesk$Book"
def TX2 : u_T := fun k => match k with
  | 0 => ("DeferredDesk$Book", "rates", "[I", true)
  | 1 => ("DeferredDesk$Book", "profits", "[I", true)
  | 2 => ("DeferredDesk$Book", "items", "[I", true)
  | 3 => ("DeferredDesk$Book", "losses", "[I", true)
  | 4 => ("DeferredDesk$Book", "year", "I", false)
  | 5 => ("DeferredDesk$Book", "carry", "I", false)
  | 6 => ("DeferredDesk$Book", "offices", "I", false)
  | 7 => ("DeferredDesk$Book", "itemCount", "I", false)
  | _ => ("DeferredDesk$Book", "lossCount", "I", false)
def tyX2 : Nat → FieldType := fun k => match k with
  | 0 => .array .int
  | 1 => .array .int
  | 2 => .array .int
  | 3 => .array .int
  | 4 => .int
  | 5 => .int
  | 6 => .int
  | 7 => .int
  | _ => .int
abbrev wsX20 : List Cond := u_ws RX2 TX2 9
theorem nmX2 : ∀ a, a < 9 → ∀ b, b < 9 → a ≠ b → (TX2 a).2.1 ≠ (TX2 b).2.1 := by decide +kernel
theorem tyX2_ok : ∀ k, k < 9 → parseFieldDescriptor (TX2 k).2.2.1 = some (tyX2 k) := by decide +kernel
abbrev cX2_init : ByteArray := prog_4_method_1_code
def yX2_init : MethodName := ⟨RX2, "<init>", "()V"⟩
abbrev cX2_clear : ByteArray := prog_4_method_2_code
def yX2_clear : MethodName := ⟨RX2, "clear", "()V"⟩
abbrev cX2_copyFrom : ByteArray := prog_4_method_3_code
def yX2_copyFrom : MethodName := ⟨RX2, "copyFrom", "(LDeferredDesk$Book;)V"⟩
abbrev cX2_hasOffice : ByteArray := prog_4_method_4_code
def yX2_hasOffice : MethodName := ⟨RX2, "hasOffice", "(I)Z"⟩
abbrev cX2_hasItem : ByteArray := prog_4_method_5_code
def yX2_hasItem : MethodName := ⟨RX2, "hasItem", "(I)Z"⟩
abbrev cX2_hasLoss : ByteArray := prog_4_method_6_code
def yX2_hasLoss : MethodName := ⟨RX2, "hasLoss", "(I)Z"⟩
abbrev cX2_setRate : ByteArray := prog_4_method_7_code
def yX2_setRate : MethodName := ⟨RX2, "setRate", "(III)V"⟩
abbrev cX2_addItem : ByteArray := prog_4_method_8_code
def yX2_addItem : MethodName := ⟨RX2, "addItem", "(IZIII)I"⟩
abbrev cX2_addLoss : ByteArray := prog_4_method_9_code
def yX2_addLoss : MethodName := ⟨RX2, "addLoss", "(III)I"⟩
abbrev cX2_bringForward : ByteArray := prog_4_method_10_code
def yX2_bringForward : MethodName := ⟨RX2, "bringForward", "(II)V"⟩
abbrev cX2_isItemOf : ByteArray := prog_4_method_11_code
def yX2_isItemOf : MethodName := ⟨RX2, "isItemOf", "(II)Z"⟩
abbrev cX2_isTaxable : ByteArray := prog_4_method_12_code
def yX2_isTaxable : MethodName := ⟨RX2, "isTaxable", "(I)Z"⟩
abbrev cX2_lastOf : ByteArray := prog_4_method_13_code
def yX2_lastOf : MethodName := ⟨RX2, "lastOf", "(I)I"⟩
abbrev cX2_partsUpTo : ByteArray := prog_4_method_14_code
def yX2_partsUpTo : MethodName := ⟨RX2, "partsUpTo", "(II)I"⟩
abbrev cX2_partOf : ByteArray := prog_4_method_15_code
def yX2_partOf : MethodName := ⟨RX2, "partOf", "(II)I"⟩
abbrev cX2_openOf : ByteArray := prog_4_method_16_code
def yX2_openOf : MethodName := ⟨RX2, "openOf", "(I)I"⟩
abbrev cX2_itemsWithNothingOpen : ByteArray := prog_4_method_17_code
def yX2_itemsWithNothingOpen : MethodName := ⟨RX2, "itemsWithNothingOpen", "()I"⟩
abbrev cX2_leftOf : ByteArray := prog_4_method_18_code
def yX2_leftOf : MethodName := ⟨RX2, "leftOf", "(III)I"⟩
abbrev cX2_leftWithLast : ByteArray := prog_4_method_19_code
def yX2_leftWithLast : MethodName := ⟨RX2, "leftWithLast", "(II)I"⟩
abbrev cX2_incomeOf : ByteArray := prog_4_method_20_code
def yX2_incomeOf : MethodName := ⟨RX2, "incomeOf", "(I)I"⟩
abbrev cX2_settleIncome : ByteArray := prog_4_method_21_code
def yX2_settleIncome : MethodName := ⟨RX2, "settleIncome", "(II)V"⟩
abbrev cX2_useLosses : ByteArray := prog_4_method_22_code
def yX2_useLosses : MethodName := ⟨RX2, "useLosses", "(II)V"⟩
def RX3 : String := "DeferredDesk$Closing"
def TX3 : u_T := fun k => match k with
  | 0 => ("DeferredDesk$Closing", "sums", "[I", true)
  | 1 => ("DeferredDesk$Closing", "taxed", "[I", true)
  | _ => ("DeferredDesk$Closing", "used", "[I", true)
def tyX3 : Nat → FieldType := fun k => match k with
  | 0 => .array .int
  | 1 => .array .int
  | _ => .array .int
abbrev wsX30 : List Cond := u_ws RX3 TX3 3
theorem nmX3 : ∀ a, a < 3 → ∀ b, b < 3 → a ≠ b → (TX3 a).2.1 ≠ (TX3 b).2.1 := by decide +kernel
theorem tyX3_ok : ∀ k, k < 3 → parseFieldDescriptor (TX3 k).2.2.1 = some (tyX3 k) := by decide +kernel
abbrev cX3_init : ByteArray := prog_5_method_1_code
def yX3_init : MethodName := ⟨RX3, "<init>", "()V"⟩
abbrev cX3_fill : ByteArray := prog_5_method_2_code
def yX3_fill : MethodName := ⟨RX3, "fill", "(LDeferredDesk$Cover;LDeferredDesk$Closing;)V"⟩
abbrev cX3_net : ByteArray := prog_5_method_3_code
def yX3_net : MethodName := ⟨RX3, "net", "()I"⟩
def RX4 : String := "DeferredDesk$Cover"
def TX4 : u_T := fun k => match k with
  | 0 => ("DeferredDesk$Cover", "taxed", "[I", true)
  | 1 => ("DeferredDesk$Cover", "covering", "[I", true)
  | 2 => ("DeferredDesk$Cover", "deducted", "[I", true)
  | 3 => ("DeferredDesk$Cover", "usedOfDeducted", "[I", true)
  | 4 => ("DeferredDesk$Cover", "used", "[I", true)
  | 5 => ("DeferredDesk$Cover", "behind", "[I", true)
  | 6 => ("DeferredDesk$Cover", "rates", "[I", true)
  | 7 => ("DeferredDesk$Cover", "leftByLast", "[I", true)
  | 8 => ("DeferredDesk$Cover", "standing", "I", false)
  | _ => ("DeferredDesk$Cover", "unused", "I", false)
def tyX4 : Nat → FieldType := fun k => match k with
  | 0 => .array .int
  | 1 => .array .int
  | 2 => .array .int
  | 3 => .array .int
  | 4 => .array .int
  | 5 => .array .int
  | 6 => .array .int
  | 7 => .array .int
  | 8 => .int
  | _ => .int
abbrev wsX40 : List Cond := u_ws RX4 TX4 10
theorem nmX4 : ∀ a, a < 10 → ∀ b, b < 10 → a ≠ b → (TX4 a).2.1 ≠ (TX4 b).2.1 := by decide +kernel
theorem tyX4_ok : ∀ k, k < 10 → parseFieldDescriptor (TX4 k).2.2.1 = some (tyX4 k) := by decide +kernel
abbrev cX4_init : ByteArray := prog_6_method_1_code
def yX4_init : MethodName := ⟨RX4, "<init>", "()V"⟩
abbrev cX4_workOut : ByteArray := prog_6_method_2_code
def yX4_workOut : MethodName := ⟨RX4, "workOut", "(LDeferredDesk$Book;I)V"⟩
abbrev cX4_addParts : ByteArray := prog_6_method_3_code
def yX4_addParts : MethodName := ⟨RX4, "addParts", "(LDeferredDesk$Book;I[I)V"⟩
abbrev cX4_spread : ByteArray := prog_6_method_4_code
def yX4_spread : MethodName := ⟨RX4, "spread", "(LDeferredDesk$Book;III)V"⟩
abbrev cX4_coverYear : ByteArray := prog_6_method_5_code
def yX4_coverYear : MethodName := ⟨RX4, "coverYear", "(II)V"⟩
abbrev cX4_useEarliest : ByteArray := prog_6_method_6_code
def yX4_useEarliest : MethodName := ⟨RX4, "useEarliest", "(II)V"⟩
abbrev cX4_supposeRate : ByteArray := prog_6_method_7_code
def yX4_supposeRate : MethodName := ⟨RX4, "supposeRate", "(II)V"⟩
abbrev cX4_taxOn : ByteArray := prog_6_method_8_code
def yX4_taxOn : MethodName := ⟨RX4, "taxOn", "([I)I"⟩
abbrev cX4_liability : ByteArray := prog_6_method_9_code
def yX4_liability : MethodName := ⟨RX4, "liability", "()I"⟩
abbrev cX4_asset : ByteArray := prog_6_method_10_code
def yX4_asset : MethodName := ⟨RX4, "asset", "()I"⟩
abbrev cX4_net : ByteArray := prog_6_method_11_code
def yX4_net : MethodName := ⟨RX4, "net", "()I"⟩
abbrev cX4_unrecognised : ByteArray := prog_6_method_12_code
def yX4_unrecognised : MethodName := ⟨RX4, "unrecognised", "()I"⟩
def RX5 : String := "DeferredDesk$Line"
def TX5 : u_T := fun k => match k with
  | _ => ("", "", "", false)
def tyX5 : Nat → FieldType := fun k => match k with
  | _ => .int
abbrev wsX50 : List Cond := u_ws RX5 TX5 0
theorem nmX5 : ∀ a, a < 0 → ∀ b, b < 0 → a ≠ b → (TX5 a).2.1 ≠ (TX5 b).2.1 := by decide +kernel
theorem tyX5_ok : ∀ k, k < 0 → parseFieldDescriptor (TX5 k).2.2.1 = some (tyX5 k) := by decide +kernel
def RX6 : String := "DeferredDesk$Reader"
def TX6 : u_T := fun k => match k with
  | 0 => ("DeferredDesk$Reader", "tape", "LDeferredDesk$Tape;", true)
  | 1 => ("DeferredDesk$Reader", "numbers", "[I", true)
  | 2 => ("DeferredDesk$Reader", "book", "LDeferredDesk$Book;", false)
  | 3 => ("DeferredDesk$Reader", "behind", "I", false)
  | 4 => ("DeferredDesk$Reader", "kind", "I", false)
  | 5 => ("DeferredDesk$Reader", "value", "I", false)
  | 6 => ("DeferredDesk$Reader", "place", "I", false)
  | 7 => ("DeferredDesk$Reader", "lines", "I", false)
  | _ => ("DeferredDesk$Reader", "refused", "I", false)
def tyX6 : Nat → FieldType := fun k => match k with
  | 0 => .object "DeferredDesk$Tape"
  | 1 => .array .int
  | 2 => .object "DeferredDesk$Book"
  | 3 => .int
  | 4 => .int
  | 5 => .int
  | 6 => .int
  | 7 => .int
  | _ => .int
abbrev wsX60 : List Cond := u_ws RX6 TX6 9
theorem nmX6 : ∀ a, a < 9 → ∀ b, b < 9 → a ≠ b → (TX6 a).2.1 ≠ (TX6 b).2.1 := by decide +kernel
theorem tyX6_ok : ∀ k, k < 9 → parseFieldDescriptor (TX6 k).2.2.1 = some (tyX6 k) := by decide +kernel
abbrev cX6_init : ByteArray := prog_8_method_1_code
def yX6_init : MethodName := ⟨RX6, "<init>", "()V"⟩
abbrev cX6_exchange : ByteArray := prog_8_method_2_code
def yX6_exchange : MethodName := ⟨RX6, "exchange", "(LDeferredDesk$Book;)LDeferredDesk$Book;"⟩
abbrev cX6_reads : ByteArray := prog_8_method_3_code
def yX6_reads : MethodName := ⟨RX6, "reads", "()Z"⟩
abbrev cX6_refuse : ByteArray := prog_8_method_4_code
def yX6_refuse : MethodName := ⟨RX6, "refuse", "(I)Z"⟩
abbrev cX6_lineThatComes : ByteArray := prog_8_method_5_code
def yX6_lineThatComes : MethodName := ⟨RX6, "lineThatComes", "()LDeferredDesk$Line;"⟩
abbrev cX6_isWord : ByteArray := prog_8_method_6_code
def yX6_isWord : MethodName := ⟨RX6, "isWord", "(Ljava/lang/String;)Z"⟩
abbrev cX6_mayCome : ByteArray := prog_8_method_7_code
def yX6_mayCome : MethodName := ⟨RX6, "mayCome", "(LDeferredDesk$Line;)Z"⟩
abbrev cX6_isOneMore : ByteArray := prog_8_method_8_code
def yX6_isOneMore : MethodName := ⟨RX6, "isOneMore", "(LDeferredDesk$Line;)Z"⟩
abbrev cX6_readsNumbers : ByteArray := prog_8_method_9_code
def yX6_readsNumbers : MethodName := ⟨RX6, "readsNumbers", "(Ljava/lang/String;)Z"⟩
abbrev cX6_least : ByteArray := prog_8_method_10_code
def yX6_least : MethodName := ⟨RX6, "least", "(C)I"⟩
abbrev cX6_most : ByteArray := prog_8_method_11_code
def yX6_most : MethodName := ⟨RX6, "most", "(C)I"⟩
abbrev cX6_enter : ByteArray := prog_8_method_12_code
def yX6_enter : MethodName := ⟨RX6, "enter", "(LDeferredDesk$Line;)V"⟩
abbrev cX6_advance : ByteArray := prog_8_method_13_code
def yX6_advance : MethodName := ⟨RX6, "advance", "()V"⟩
abbrev cX6_takeRun : ByteArray := prog_8_method_14_code
def yX6_takeRun : MethodName := ⟨RX6, "takeRun", "()V"⟩
abbrev cX6_isBlank : ByteArray := prog_8_method_15_code
def yX6_isBlank : MethodName := ⟨RX6, "isBlank", "(I)Z"⟩
abbrev cX6_isDigit : ByteArray := prog_8_method_16_code
def yX6_isDigit : MethodName := ⟨RX6, "isDigit", "(I)Z"⟩
abbrev cX6_isOfRun : ByteArray := prog_8_method_17_code
def yX6_isOfRun : MethodName := ⟨RX6, "isOfRun", "(I)Z"⟩
def RX7 : String := "DeferredDesk$Tape"
def TX7 : u_T := fun k => match k with
  | 0 => ("DeferredDesk$Tape", "bytes", "[B", true)
  | _ => ("DeferredDesk$Tape", "size", "I", false)
def tyX7 : Nat → FieldType := fun k => match k with
  | 0 => .array .byte
  | _ => .int
abbrev wsX70 : List Cond := u_ws RX7 TX7 2
theorem nmX7 : ∀ a, a < 2 → ∀ b, b < 2 → a ≠ b → (TX7 a).2.1 ≠ (TX7 b).2.1 := by decide +kernel
theorem tyX7_ok : ∀ k, k < 2 → parseFieldDescriptor (TX7 k).2.2.1 = some (tyX7 k) := by decide +kernel
abbrev cX7_init : ByteArray := prog_9_method_1_code
def yX7_init : MethodName := ⟨RX7, "<init>", "()V"⟩
abbrev cX7_add : ByteArray := prog_9_method_2_code
def yX7_add : MethodName := ⟨RX7, "add", "(I)V"⟩
abbrev cX7_at : ByteArray := prog_9_method_3_code
def yX7_at : MethodName := ⟨RX7, "at", "(I)I"⟩
def RX8 : String := "DeferredDesk"
def TX8 : u_T := fun k => match k with
  | 0 => ("DeferredDesk", "reader", "LDeferredDesk$Reader;", true)
  | 1 => ("DeferredDesk", "tape", "LDeferredDesk$Tape;", true)
  | 2 => ("DeferredDesk", "cover", "LDeferredDesk$Cover;", true)
  | 3 => ("DeferredDesk", "acts", "LDeferredDesk$Acts;", true)
  | 4 => ("DeferredDesk", "closings", "[LDeferredDesk$Closing;", true)
  | _ => ("DeferredDesk", "book", "LDeferredDesk$Book;", false)
def tyX8 : Nat → FieldType := fun k => match k with
  | 0 => .object "DeferredDesk$Reader"
  | 1 => .object "DeferredDesk$Tape"
  | 2 => .object "DeferredDesk$Cover"
  | 3 => .object "DeferredDesk$Acts"
  | 4 => .array (.object "DeferredDesk$Closing")
  | _ => .object "DeferredDesk$Book"
abbrev wsX80 : List Cond := u_ws RX8 TX8 6
theorem nmX8 : ∀ a, a < 6 → ∀ b, b < 6 → a ≠ b → (TX8 a).2.1 ≠ (TX8 b).2.1 := by decide +kernel
theorem tyX8_ok : ∀ k, k < 6 → parseFieldDescriptor (TX8 k).2.2.1 = some (tyX8 k) := by decide +kernel
abbrev cX8_init : ByteArray := prog_1_method_1_code
def yX8_init : MethodName := ⟨RX8, "<init>", "()V"⟩
abbrev cX8_feed : ByteArray := prog_1_method_2_code
def yX8_feed : MethodName := ⟨RX8, "feed", "(IIIII)I"⟩
abbrev cX8_end : ByteArray := prog_1_method_3_code
def yX8_end : MethodName := ⟨RX8, "end", "(I)Z"⟩
abbrev cX8_text : ByteArray := prog_1_method_4_code
def yX8_text : MethodName := ⟨RX8, "text", "()I"⟩
abbrev cX8_fault : ByteArray := prog_1_method_5_code
def yX8_fault : MethodName := ⟨RX8, "fault", "()I"⟩
abbrev cX8_now : ByteArray := prog_1_method_6_code
def yX8_now : MethodName := ⟨RX8, "now", "(I)I"⟩
abbrev cX8_item : ByteArray := prog_1_method_7_code
def yX8_item : MethodName := ⟨RX8, "item", "(II)I"⟩
abbrev cX8_loss : ByteArray := prog_1_method_8_code
def yX8_loss : MethodName := ⟨RX8, "loss", "(II)I"⟩
abbrev cX8_rate : ByteArray := prog_1_method_9_code
def yX8_rate : MethodName := ⟨RX8, "rate", "(II)I"⟩
abbrev cX8_covered : ByteArray := prog_1_method_10_code
def yX8_covered : MethodName := ⟨RX8, "covered", "(III)I"⟩
abbrev cX8_balance : ByteArray := prog_1_method_11_code
def yX8_balance : MethodName := ⟨RX8, "balance", "(II)I"⟩
abbrev cX8_closing : ByteArray := prog_1_method_12_code
def yX8_closing : MethodName := ⟨RX8, "closing", "(III)I"⟩
abbrev cX8_would : ByteArray := prog_1_method_13_code
def yX8_would : MethodName := ⟨RX8, "would", "(III)I"⟩
abbrev cX8_needs : ByteArray := prog_1_method_14_code
def yX8_needs : MethodName := ⟨RX8, "needs", "(II)I"⟩
abbrev cX8_enact : ByteArray := prog_1_method_15_code
def yX8_enact : MethodName := ⟨RX8, "enact", "(III)I"⟩
abbrev cX8_expect : ByteArray := prog_1_method_16_code
def yX8_expect : MethodName := ⟨RX8, "expect", "(III)I"⟩
abbrev cX8_arises : ByteArray := prog_1_method_17_code
def yX8_arises : MethodName := ⟨RX8, "arises", "(IZIII)I"⟩
abbrev cX8_settle : ByteArray := prog_1_method_18_code
def yX8_settle : MethodName := ⟨RX8, "settle", "(I)I"⟩
abbrev cX8_loses : ByteArray := prog_1_method_19_code
def yX8_loses : MethodName := ⟨RX8, "loses", "(III)I"⟩
abbrev cX8_yearEnd : ByteArray := prog_1_method_20_code
def yX8_yearEnd : MethodName := ⟨RX8, "yearEnd", "()I"⟩
abbrev cX8_undo : ByteArray := prog_1_method_21_code
def yX8_undo : MethodName := ⟨RX8, "undo", "()I"⟩
abbrev cX8_isSum : ByteArray := prog_1_method_22_code
def yX8_isSum : MethodName := ⟨RX8, "isSum", "(I)Z"⟩
abbrev cX8_isYearToCome : ByteArray := prog_1_method_23_code
def yX8_isYearToCome : MethodName := ⟨RX8, "isYearToCome", "(II)Z"⟩
abbrev cX8_isYearNotClosed : ByteArray := prog_1_method_24_code
def yX8_isYearNotClosed : MethodName := ⟨RX8, "isYearNotClosed", "(II)Z"⟩
abbrev cX8_mayBeEnacted : ByteArray := prog_1_method_25_code
def yX8_mayBeEnacted : MethodName := ⟨RX8, "mayBeEnacted", "(III)Z"⟩
abbrev cX8_balanceOfOne : ByteArray := prog_1_method_26_code
def yX8_balanceOfOne : MethodName := ⟨RX8, "balanceOfOne", "(II)I"⟩
abbrev cX8_balanceOfAll : ByteArray := prog_1_method_27_code
def yX8_balanceOfAll : MethodName := ⟨RX8, "balanceOfAll", "(I)I"⟩
abbrev cX8_leastProfitMore : ByteArray := prog_1_method_28_code
def yX8_leastProfitMore : MethodName := ⟨RX8, "leastProfitMore", "(II)I"⟩
abbrev cX8_isEnough : ByteArray := prog_1_method_29_code
def yX8_isEnough : MethodName := ⟨RX8, "isEnough", "(III)Z"⟩
abbrev cX8_closingToFill : ByteArray := prog_1_method_30_code
def yX8_closingToFill : MethodName := ⟨RX8, "closingToFill", "(I)LDeferredDesk$Closing;"⟩
abbrev cX8_closingAhead : ByteArray := prog_1_method_31_code
def yX8_closingAhead : MethodName := ⟨RX8, "closingAhead", "(I)LDeferredDesk$Closing;"⟩
def RX9 : String := "DeferredDeskModel"
def TX9 : u_T := fun k => match k with
  | 0 => ("DeferredDeskModel", "thrown", "I", false)
  | 1 => ("DeferredDeskModel", "tape", "[I", true)
  | 2 => ("DeferredDeskModel", "taped", "I", false)
  | 3 => ("DeferredDeskModel", "size", "I", false)
  | 4 => ("DeferredDeskModel", "to", "I", false)
  | 5 => ("DeferredDeskModel", "from", "I", false)
  | 6 => ("DeferredDeskModel", "sort", "I", false)
  | 7 => ("DeferredDeskModel", "number", "I", false)
  | 8 => ("DeferredDeskModel", "fault", "I", false)
  | 9 => ("DeferredDeskModel", "place", "I", false)
  | 10 => ("DeferredDeskModel", "word", "J", false)
  | 11 => ("DeferredDeskModel", "now", "[I", true)
  | 12 => ("DeferredDeskModel", "read", "[I", true)
  | 13 => ("DeferredDeskModel", "snaps", "[I", true)
  | 14 => ("DeferredDeskModel", "snapMany", "I", false)
  | 15 => ("DeferredDeskModel", "got", "I", false)
  | 16 => ("DeferredDeskModel", "left", "[I", true)
  | 17 => ("DeferredDeskModel", "lapse", "[I", true)
  | 18 => ("DeferredDeskModel", "taxed", "[I", true)
  | 19 => ("DeferredDeskModel", "cover", "[I", true)
  | 20 => ("DeferredDeskModel", "deducted", "[I", true)
  | 21 => ("DeferredDeskModel", "usedNow", "[I", true)
  | 22 => ("DeferredDeskModel", "usedLost", "[I", true)
  | 23 => ("DeferredDeskModel", "behind", "[I", true)
  | _ => ("DeferredDeskModel", "rates", "[I", true)
def tyX9 : Nat → FieldType := fun k => match k with
  | 0 => .int
  | 1 => .array .int
  | 2 => .int
  | 3 => .int
  | 4 => .int
  | 5 => .int
  | 6 => .int
  | 7 => .int
  | 8 => .int
  | 9 => .int
  | 10 => .long
  | 11 => .array .int
  | 12 => .array .int
  | 13 => .array .int
  | 14 => .int
  | 15 => .int
  | 16 => .array .int
  | 17 => .array .int
  | 18 => .array .int
  | 19 => .array .int
  | 20 => .array .int
  | 21 => .array .int
  | 22 => .array .int
  | 23 => .array .int
  | _ => .array .int
abbrev wsX90 : List Cond := u_ws RX9 TX9 25
theorem nmX9 : ∀ a, a < 25 → ∀ b, b < 25 → a ≠ b → (TX9 a).2.1 ≠ (TX9 b).2.1 := by decide +kernel
theorem tyX9_ok : ∀ k, k < 25 → parseFieldDescriptor (TX9 k).2.2.1 = some (tyX9 k) := by decide +kernel
abbrev cX9_thrown : ByteArray := prog_11_method_1_code
def yX9_thrown : MethodName := ⟨RX9, "thrown", "()I"⟩
abbrev cX9_refuse : ByteArray := prog_11_method_2_code
def yX9_refuse : MethodName := ⟨RX9, "refuse", "()I"⟩
abbrev cX9_isIn : ByteArray := prog_11_method_3_code
def yX9_isIn : MethodName := ⟨RX9, "isIn", "(III)Z"⟩
abbrev cX9_lays : ByteArray := prog_11_method_4_code
def yX9_lays : MethodName := ⟨RX9, "lays", "(I)V"⟩
abbrev cX9_feed : ByteArray := prog_11_method_5_code
def yX9_feed : MethodName := ⟨RX9, "feed", "(IIIII)I"⟩
abbrev cX9_end : ByteArray := prog_11_method_6_code
def yX9_end : MethodName := ⟨RX9, "end", "(I)Z"⟩
abbrev cX9_tapeAt : ByteArray := prog_11_method_7_code
def yX9_tapeAt : MethodName := ⟨RX9, "tapeAt", "(I)I"⟩
abbrev cX9_isDigit : ByteArray := prog_11_method_8_code
def yX9_isDigit : MethodName := ⟨RX9, "isDigit", "(I)Z"⟩
abbrev cX9_isLetter : ByteArray := prog_11_method_9_code
def yX9_isLetter : MethodName := ⟨RX9, "isLetter", "(I)Z"⟩
abbrev cX9_go : ByteArray := prog_11_method_10_code
def yX9_go : MethodName := ⟨RX9, "go", "()V"⟩
abbrev cX9_two : ByteArray := prog_11_method_11_code
def yX9_two : MethodName := ⟨RX9, "two", "(II)J"⟩
abbrev cX9_four : ByteArray := prog_11_method_12_code
def yX9_four : MethodName := ⟨RX9, "four", "(IIII)J"⟩
abbrev cX9_six : ByteArray := prog_11_method_13_code
def yX9_six : MethodName := ⟨RX9, "six", "(IIIIII)J"⟩
abbrev cX9_isWord : ByteArray := prog_11_method_14_code
def yX9_isWord : MethodName := ⟨RX9, "isWord", "(J)Z"⟩
abbrev cX9_bad : ByteArray := prog_11_method_15_code
def yX9_bad : MethodName := ⟨RX9, "bad", "(I)Z"⟩
abbrev cX9_init : ByteArray := prog_11_method_16_code
def yX9_init : MethodName := ⟨RX9, "<init>", "()V"⟩
abbrev cX9_told : ByteArray := prog_11_method_17_code
def yX9_told : MethodName := ⟨RX9, "told", "(III)Z"⟩
abbrev cX9_takes : ByteArray := prog_11_method_18_code
def yX9_takes : MethodName := ⟨RX9, "takes", "(II)Z"⟩
abbrev cX9_readEnd : ByteArray := prog_11_method_19_code
def yX9_readEnd : MethodName := ⟨RX9, "readEnd", "()Z"⟩
abbrev cX9_setRates : ByteArray := prog_11_method_20_code
def yX9_setRates : MethodName := ⟨RX9, "setRates", "([IIII)V"⟩
abbrev cX9_isOfficeWord : ByteArray := prog_11_method_21_code
def yX9_isOfficeWord : MethodName := ⟨RX9, "isOfficeWord", "()Z"⟩
abbrev cX9_readOffice : ByteArray := prog_11_method_22_code
def yX9_readOffice : MethodName := ⟨RX9, "readOffice", "()Z"⟩
abbrev cX9_readOfYear : ByteArray := prog_11_method_23_code
def yX9_readOfYear : MethodName := ⟨RX9, "readOfYear", "(Z)Z"⟩
abbrev cX9_readItem : ByteArray := prog_11_method_24_code
def yX9_readItem : MethodName := ⟨RX9, "readItem", "(Z)Z"⟩
abbrev cX9_readLoss : ByteArray := prog_11_method_25_code
def yX9_readLoss : MethodName := ⟨RX9, "readLoss", "()Z"⟩
abbrev cX9_readLine : ByteArray := prog_11_method_26_code
def yX9_readLine : MethodName := ⟨RX9, "readLine", "()Z"⟩
abbrev cX9_text : ByteArray := prog_11_method_27_code
def yX9_text : MethodName := ⟨RX9, "text", "()I"⟩
abbrev cX9_readHead : ByteArray := prog_11_method_28_code
def yX9_readHead : MethodName := ⟨RX9, "readHead", "()I"⟩
abbrev cX9_fault : ByteArray := prog_11_method_29_code
def yX9_fault : MethodName := ⟨RX9, "fault", "()I"⟩
abbrev cX9_isOffice : ByteArray := prog_11_method_30_code
def yX9_isOffice : MethodName := ⟨RX9, "isOffice", "(I)Z"⟩
abbrev cX9_isYear : ByteArray := prog_11_method_31_code
def yX9_isYear : MethodName := ⟨RX9, "isYear", "(I)Z"⟩
abbrev cX9_isAhead : ByteArray := prog_11_method_32_code
def yX9_isAhead : MethodName := ⟨RX9, "isAhead", "(I)Z"⟩
abbrev cX9_isItem : ByteArray := prog_11_method_33_code
def yX9_isItem : MethodName := ⟨RX9, "isItem", "(I)Z"⟩
abbrev cX9_isLoss : ByteArray := prog_11_method_34_code
def yX9_isLoss : MethodName := ⟨RX9, "isLoss", "(I)Z"⟩
abbrev cX9_its : ByteArray := prog_11_method_35_code
def yX9_its : MethodName := ⟨RX9, "its", "(II)I"⟩
abbrev cX9_lost : ByteArray := prog_11_method_36_code
def yX9_lost : MethodName := ⟨RX9, "lost", "(II)I"⟩
abbrev cX9_upTo : ByteArray := prog_11_method_37_code
def yX9_upTo : MethodName := ⟨RX9, "upTo", "(II)I"⟩
abbrev cX9_part : ByteArray := prog_11_method_38_code
def yX9_part : MethodName := ⟨RX9, "part", "(II)I"⟩
abbrev cX9_openOf : ByteArray := prog_11_method_39_code
def yX9_openOf : MethodName := ⟨RX9, "openOf", "(I)I"⟩
abbrev cX9_partsOf : ByteArray := prog_11_method_40_code
def yX9_partsOf : MethodName := ⟨RX9, "partsOf", "(III)I"⟩
abbrev cX9_rateOf : ByteArray := prog_11_method_41_code
def yX9_rateOf : MethodName := ⟨RX9, "rateOf", "(II)I"⟩
abbrev cX9_profitOf : ByteArray := prog_11_method_42_code
def yX9_profitOf : MethodName := ⟨RX9, "profitOf", "(II)I"⟩
abbrev cX9_nextLoss : ByteArray := prog_11_method_43_code
def yX9_nextLoss : MethodName := ⟨RX9, "nextLoss", "(I)I"⟩
abbrev cX9_sweeps : ByteArray := prog_11_method_44_code
def yX9_sweeps : MethodName := ⟨RX9, "sweeps", "(III)V"⟩
abbrev cX9_usesLosses : ByteArray := prog_11_method_45_code
def yX9_usesLosses : MethodName := ⟨RX9, "usesLosses", "(II)I"⟩
abbrev cX9_used : ByteArray := prog_11_method_46_code
def yX9_used : MethodName := ⟨RX9, "used", "(I)I"⟩
abbrev cX9_taxOn : ByteArray := prog_11_method_47_code
def yX9_taxOn : MethodName := ⟨RX9, "taxOn", "(II)I"⟩
abbrev cX9_liability : ByteArray := prog_11_method_48_code
def yX9_liability : MethodName := ⟨RX9, "liability", "(I)I"⟩
abbrev cX9_asset : ByteArray := prog_11_method_49_code
def yX9_asset : MethodName := ⟨RX9, "asset", "(I)I"⟩
abbrev cX9_unrecognised : ByteArray := prog_11_method_50_code
def yX9_unrecognised : MethodName := ⟨RX9, "unrecognised", "(I)I"⟩
abbrev cX9_balanceOf : ByteArray := prog_11_method_51_code
def yX9_balanceOf : MethodName := ⟨RX9, "balanceOf", "(II)I"⟩
abbrev cX9_doneItems : ByteArray := prog_11_method_52_code
def yX9_doneItems : MethodName := ⟨RX9, "doneItems", "()I"⟩
abbrev cX9_now : ByteArray := prog_11_method_53_code
def yX9_now : MethodName := ⟨RX9, "now", "(I)I"⟩
abbrev cX9_item : ByteArray := prog_11_method_54_code
def yX9_item : MethodName := ⟨RX9, "item", "(II)I"⟩
abbrev cX9_loss : ByteArray := prog_11_method_55_code
def yX9_loss : MethodName := ⟨RX9, "loss", "(II)I"⟩
abbrev cX9_rate : ByteArray := prog_11_method_56_code
def yX9_rate : MethodName := ⟨RX9, "rate", "(II)I"⟩
abbrev cX9_covered : ByteArray := prog_11_method_57_code
def yX9_covered : MethodName := ⟨RX9, "covered", "(III)I"⟩
abbrev cX9_balance : ByteArray := prog_11_method_58_code
def yX9_balance : MethodName := ⟨RX9, "balance", "(II)I"⟩
abbrev cX9_closingAt : ByteArray := prog_11_method_59_code
def yX9_closingAt : MethodName := ⟨RX9, "closingAt", "(II)I"⟩
abbrev cX9_closing : ByteArray := prog_11_method_60_code
def yX9_closing : MethodName := ⟨RX9, "closing", "(III)I"⟩
abbrev cX9_canEnact : ByteArray := prog_11_method_61_code
def yX9_canEnact : MethodName := ⟨RX9, "canEnact", "(III)Z"⟩
abbrev cX9_would : ByteArray := prog_11_method_62_code
def yX9_would : MethodName := ⟨RX9, "would", "(III)I"⟩
abbrev cX9_isEnough : ByteArray := prog_11_method_63_code
def yX9_isEnough : MethodName := ⟨RX9, "isEnough", "(III)Z"⟩
abbrev cX9_needs : ByteArray := prog_11_method_64_code
def yX9_needs : MethodName := ⟨RX9, "needs", "(II)I"⟩
abbrev cX9_snap : ByteArray := prog_11_method_65_code
def yX9_snap : MethodName := ⟨RX9, "snap", "()V"⟩
abbrev cX9_enact : ByteArray := prog_11_method_66_code
def yX9_enact : MethodName := ⟨RX9, "enact", "(III)I"⟩
abbrev cX9_expect : ByteArray := prog_11_method_67_code
def yX9_expect : MethodName := ⟨RX9, "expect", "(III)I"⟩
abbrev cX9_arises : ByteArray := prog_11_method_68_code
def yX9_arises : MethodName := ⟨RX9, "arises", "(IZIII)I"⟩
abbrev cX9_settle : ByteArray := prog_11_method_69_code
def yX9_settle : MethodName := ⟨RX9, "settle", "(I)I"⟩
abbrev cX9_addsLoss : ByteArray := prog_11_method_70_code
def yX9_addsLoss : MethodName := ⟨RX9, "addsLoss", "(III)I"⟩
abbrev cX9_loses : ByteArray := prog_11_method_71_code
def yX9_loses : MethodName := ⟨RX9, "loses", "(III)I"⟩
abbrev cX9_bears : ByteArray := prog_11_method_72_code
def yX9_bears : MethodName := ⟨RX9, "bears", "(I)V"⟩
abbrev cX9_closes : ByteArray := prog_11_method_73_code
def yX9_closes : MethodName := ⟨RX9, "closes", "(I)V"⟩
abbrev cX9_yearEnd : ByteArray := prog_11_method_74_code
def yX9_yearEnd : MethodName := ⟨RX9, "yearEnd", "()I"⟩
abbrev cX9_undo : ByteArray := prog_11_method_75_code
def yX9_undo : MethodName := ⟨RX9, "undo", "()I"⟩
def RJx145de : String := "java/io/Serializable"
def TJx145de : u_T := fun k => match k with
  | _ => ("", "", "", false)
def tyJx145de : Nat → FieldType := fun k => match k with
  | _ => .int
abbrev wsJx145de0 : List Cond := u_ws RJx145de TJx145de 0
theorem nmJx145de : ∀ a, a < 0 → ∀ b, b < 0 → a ≠ b → (TJx145de a).2.1 ≠ (TJx145de b).2.1 := by decide +kernel
theorem tyJx145de_ok : ∀ k, k < 0 → parseFieldDescriptor (TJx145de k).2.2.1 = some (tyJx145de k) := by decide +kernel
def RJx9f9b0 : String := "java/lang/CharSequence"
def TJx9f9b0 : u_T := fun k => match k with
  | _ => ("", "", "", false)
def tyJx9f9b0 : Nat → FieldType := fun k => match k with
  | _ => .int
abbrev wsJx9f9b00 : List Cond := u_ws RJx9f9b0 TJx9f9b0 0
theorem nmJx9f9b0 : ∀ a, a < 0 → ∀ b, b < 0 → a ≠ b → (TJx9f9b0 a).2.1 ≠ (TJx9f9b0 b).2.1 := by decide +kernel
theorem tyJx9f9b0_ok : ∀ k, k < 0 → parseFieldDescriptor (TJx9f9b0 k).2.2.1 = some (tyJx9f9b0 k) := by decide +kernel
def RJxb160c : String := "java/lang/Comparable"
def TJxb160c : u_T := fun k => match k with
  | _ => ("", "", "", false)
def tyJxb160c : Nat → FieldType := fun k => match k with
  | _ => .int
abbrev wsJxb160c0 : List Cond := u_ws RJxb160c TJxb160c 0
theorem nmJxb160c : ∀ a, a < 0 → ∀ b, b < 0 → a ≠ b → (TJxb160c a).2.1 ≠ (TJxb160c b).2.1 := by decide +kernel
theorem tyJxb160c_ok : ∀ k, k < 0 → parseFieldDescriptor (TJxb160c k).2.2.1 = some (tyJxb160c k) := by decide +kernel
def RJx29ce0 : String := "java/lang/Enum"
def TJx29ce0 : u_T := fun k => match k with
  | _ => ("", "", "", false)
def tyJx29ce0 : Nat → FieldType := fun k => match k with
  | _ => .int
abbrev wsJx29ce00 : List Cond := u_ws RJx29ce0 TJx29ce0 0
theorem nmJx29ce0 : ∀ a, a < 0 → ∀ b, b < 0 → a ≠ b → (TJx29ce0 a).2.1 ≠ (TJx29ce0 b).2.1 := by decide +kernel
theorem tyJx29ce0_ok : ∀ k, k < 0 → parseFieldDescriptor (TJx29ce0 k).2.2.1 = some (tyJx29ce0 k) := by decide +kernel
abbrev cJx29ce0_ordinal_8abf5 : ByteArray := prog_15_method_2_code
def yJx29ce0_ordinal_8abf5 : MethodName := ⟨RJx29ce0, "ordinal", "()I"⟩
def RJ9 : String := "java/lang/Math"
def TJ9 : u_T := fun k => match k with
  | _ => ("", "", "", false)
def tyJ9 : Nat → FieldType := fun k => match k with
  | _ => .int
abbrev wsJ90 : List Cond := u_ws RJ9 TJ9 0
theorem nmJ9 : ∀ a, a < 0 → ∀ b, b < 0 → a ≠ b → (TJ9 a).2.1 ≠ (TJ9 b).2.1 := by decide +kernel
theorem tyJ9_ok : ∀ k, k < 0 → parseFieldDescriptor (TJ9 k).2.2.1 = some (tyJ9 k) := by decide +kernel
abbrev cJ9_min_7cf53 : ByteArray := prog_17_method_69_code
def yJ9_min_7cf53 : MethodName := ⟨RJ9, "min", "(II)I"⟩
def RJ0 : String := "java/lang/String"
def TJ0 : u_T := fun k => match k with
  | _ => ("", "", "", false)
def tyJ0 : Nat → FieldType := fun k => match k with
  | _ => .int
abbrev wsJ00 : List Cond := u_ws RJ0 TJ0 0
theorem nmJ0 : ∀ a, a < 0 → ∀ b, b < 0 → a ≠ b → (TJ0 a).2.1 ≠ (TJ0 b).2.1 := by decide +kernel
theorem tyJ0_ok : ∀ k, k < 0 → parseFieldDescriptor (TJ0 k).2.2.1 = some (tyJ0 k) := by decide +kernel
abbrev cJ0_length_8abf5 : ByteArray := prog_19_method_54_code
def yJ0_length_8abf5 : MethodName := ⟨RJ0, "length", "()I"⟩
abbrev cJ0_charAt_5068e : ByteArray := prog_19_method_56_code
def yJ0_charAt_5068e : MethodName := ⟨RJ0, "charAt", "(I)C"⟩
abbrev cJ0_coder_7d493 : ByteArray := prog_19_method_152_code
def yJ0_coder_7d493 : MethodName := ⟨RJ0, "coder", "()B"⟩
abbrev cJ0_isLatin1_aae02 : ByteArray := prog_19_method_154_code
def yJ0_isLatin1_aae02 : MethodName := ⟨RJ0, "isLatin1", "()Z"⟩
abbrev cJ0_checkIndex_df160 : ByteArray := prog_19_method_155_code
def yJ0_checkIndex_df160 : MethodName := ⟨RJ0, "checkIndex", "(II)V"⟩
def RJ1 : String := "java/lang/StringLatin1"
def TJ1 : u_T := fun k => match k with
  | _ => ("", "", "", false)
def tyJ1 : Nat → FieldType := fun k => match k with
  | _ => .int
abbrev wsJ10 : List Cond := u_ws RJ1 TJ1 0
theorem nmJ1 : ∀ a, a < 0 → ∀ b, b < 0 → a ≠ b → (TJ1 a).2.1 ≠ (TJ1 b).2.1 := by decide +kernel
theorem tyJ1_ok : ∀ k, k < 0 → parseFieldDescriptor (TJ1 k).2.2.1 = some (tyJ1 k) := by decide +kernel
abbrev cJ1_charAt_3b067 : ByteArray := prog_20_method_2_code
def yJ1_charAt_3b067 : MethodName := ⟨RJ1, "charAt", "([BI)C"⟩
def RJ2 : String := "java/lang/StringUTF16"
def TJ2 : u_T := fun k => match k with
  | _ => ("", "", "", false)
def tyJ2 : Nat → FieldType := fun k => match k with
  | _ => .int
abbrev wsJ20 : List Cond := u_ws RJ2 TJ2 0
theorem nmJ2 : ∀ a, a < 0 → ∀ b, b < 0 → a ≠ b → (TJ2 a).2.1 ≠ (TJ2 b).2.1 := by decide +kernel
theorem tyJ2_ok : ∀ k, k < 0 → parseFieldDescriptor (TJ2 k).2.2.1 = some (tyJ2 k) := by decide +kernel
abbrev cJ2_getChar_3b067 : ByteArray := prog_21_method_5_code
def yJ2_getChar_3b067 : MethodName := ⟨RJ2, "getChar", "([BI)C"⟩
abbrev cJ2_length_9d52b : ByteArray := prog_21_method_6_code
def yJ2_length_9d52b : MethodName := ⟨RJ2, "length", "([B)I"⟩
abbrev cJ2_charAt_3b067 : ByteArray := prog_21_method_83_code
def yJ2_charAt_3b067 : MethodName := ⟨RJ2, "charAt", "([BI)C"⟩
abbrev cJ2_checkIndex_2214a : ByteArray := prog_21_method_91_code
def yJ2_checkIndex_2214a : MethodName := ⟨RJ2, "checkIndex", "(I[B)V"⟩
def RJ10 : String := "java/lang/System"
def TJ10 : u_T := fun k => match k with
  | _ => ("", "", "", false)
def tyJ10 : Nat → FieldType := fun k => match k with
  | _ => .int
abbrev wsJ100 : List Cond := u_ws RJ10 TJ10 0
theorem nmJ10 : ∀ a, a < 0 → ∀ b, b < 0 → a ≠ b → (TJ10 a).2.1 ≠ (TJ10 b).2.1 := by decide +kernel
theorem tyJ10_ok : ∀ k, k < 0 → parseFieldDescriptor (TJ10 k).2.2.1 = some (tyJ10 k) := by decide +kernel
def RJxfd54e : String := "java/lang/constant/Constable"
def TJxfd54e : u_T := fun k => match k with
  | _ => ("", "", "", false)
def tyJxfd54e : Nat → FieldType := fun k => match k with
  | _ => .int
abbrev wsJxfd54e0 : List Cond := u_ws RJxfd54e TJxfd54e 0
theorem nmJxfd54e : ∀ a, a < 0 → ∀ b, b < 0 → a ≠ b → (TJxfd54e a).2.1 ≠ (TJxfd54e b).2.1 := by decide +kernel
theorem tyJxfd54e_ok : ∀ k, k < 0 → parseFieldDescriptor (TJxfd54e k).2.2.1 = some (tyJxfd54e k) := by decide +kernel
def RJx3cf43 : String := "java/lang/constant/ConstantDesc"
def TJx3cf43 : u_T := fun k => match k with
  | _ => ("", "", "", false)
def tyJx3cf43 : Nat → FieldType := fun k => match k with
  | _ => .int
abbrev wsJx3cf430 : List Cond := u_ws RJx3cf43 TJx3cf43 0
theorem nmJx3cf43 : ∀ a, a < 0 → ∀ b, b < 0 → a ≠ b → (TJx3cf43 a).2.1 ≠ (TJx3cf43 b).2.1 := by decide +kernel
theorem tyJx3cf43_ok : ∀ k, k < 0 → parseFieldDescriptor (TJx3cf43 k).2.2.1 = some (tyJx3cf43 k) := by decide +kernel
def RJ3 : String := "jdk/internal/util/Preconditions"
def TJ3 : u_T := fun k => match k with
  | _ => ("", "", "", false)
def tyJ3 : Nat → FieldType := fun k => match k with
  | _ => .int
abbrev wsJ30 : List Cond := u_ws RJ3 TJ3 0
theorem nmJ3 : ∀ a, a < 0 → ∀ b, b < 0 → a ≠ b → (TJ3 a).2.1 ≠ (TJ3 b).2.1 := by decide +kernel
theorem tyJ3_ok : ∀ k, k < 0 → parseFieldDescriptor (TJ3 k).2.2.1 = some (tyJ3 k) := by decide +kernel
abbrev cJ3_checkIndex_8e157 : ByteArray := prog_27_method_11_code
def yJ3_checkIndex_8e157 : MethodName := ⟨RJ3, "checkIndex", "(IILjava/util/function/BiFunction;)I"⟩
def RL : String := "DeferredDeskLaw"
abbrev cL_item : ByteArray := method_3_code
def yL_item : MethodName := ⟨RL, "item", "(LDeferredDesk;II[J)I"⟩
abbrev cL_loss : ByteArray := method_4_code
def yL_loss : MethodName := ⟨RL, "loss", "(LDeferredDesk;II[J)I"⟩
abbrev cL_law : ByteArray := code
def yL_law : MethodName := ⟨RL, "law", "([I)Z"⟩
abbrev vwCl : List vw_C := [(RX1, TX1, 3), (RX2, TX2, 9), (RX3, TX3, 3), (RX4, TX4, 10), (RX6, TX6, 9), (RX7, TX7, 2), (RX8, TX8, 6), (RX9, TX9, 25)]
