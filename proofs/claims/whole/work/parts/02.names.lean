def RX0 : String := "PackExchange$Node"
def TX0 : u_T := fun k => match k with
  | 0 => ("PackExchange$Node", "values", "[I", true)
  | 1 => ("PackExchange$Node", "log", "[I", true)
  | 2 => ("PackExchange$Node", "noted", "I", false)
  | 3 => ("PackExchange$Node", "sealed", "Z", false)
  | 4 => ("PackExchange$Node", "held", "J", false)
  | 5 => ("PackExchange$Node", "powered", "Z", false)
  | _ => ("PackExchange$Node", "writesLeft", "I", false)
def tyX0 : Nat → FieldType := fun k => match k with
  | 0 => .array .int
  | 1 => .array .int
  | 2 => .int
  | 3 => .boolean
  | 4 => .long
  | 5 => .boolean
  | _ => .int
theorem nX0 : ∀ a, a < 7 → ∀ b, b < 7 → a ≠ b → (TX0 a).2.1 ≠ (TX0 b).2.1 := by decide +kernel
theorem tyX0_ok : ∀ k, k < 7 → parseFieldDescriptor (TX0 k).2.2.1 = some (tyX0 k) := by decide +kernel
def RX1 : String := "PackExchange$Pack"
def TX1 : u_T := fun k => match k with
  | 0 => ("PackExchange$Pack", "objects", "[I", true)
  | 1 => ("PackExchange$Pack", "bases", "[I", true)
  | 2 => ("PackExchange$Pack", "chains", "[I", true)
  | 3 => ("PackExchange$Pack", "members", "J", false)
  | 4 => ("PackExchange$Pack", "size", "I", false)
  | _ => ("PackExchange$Pack", "total", "I", false)
def tyX1 : Nat → FieldType := fun k => match k with
  | 0 => .array .int
  | 1 => .array .int
  | 2 => .array .int
  | 3 => .long
  | 4 => .int
  | _ => .int
theorem nX1 : ∀ a, a < 6 → ∀ b, b < 6 → a ≠ b → (TX1 a).2.1 ≠ (TX1 b).2.1 := by decide +kernel
theorem tyX1_ok : ∀ k, k < 6 → parseFieldDescriptor (TX1 k).2.2.1 = some (tyX1 k) := by decide +kernel
def RX2 : String := "PackExchange$Store"
def TX2 : u_T := fun k => match k with
  | 0 => ("PackExchange$Store", "kinds", "[I", true)
  | 1 => ("PackExchange$Store", "firsts", "[I", true)
  | 2 => ("PackExchange$Store", "seconds", "[I", true)
  | 3 => ("PackExchange$Store", "thirds", "[I", true)
  | 4 => ("PackExchange$Store", "reaches", "[J", true)
  | _ => ("PackExchange$Store", "size", "I", false)
def tyX2 : Nat → FieldType := fun k => match k with
  | 0 => .array .int
  | 1 => .array .int
  | 2 => .array .int
  | 3 => .array .int
  | 4 => .array .long
  | _ => .int
theorem nX2 : ∀ a, a < 6 → ∀ b, b < 6 → a ≠ b → (TX2 a).2.1 ≠ (TX2 b).2.1 := by decide +kernel
theorem tyX2_ok : ∀ k, k < 6 → parseFieldDescriptor (TX2 k).2.2.1 = some (tyX2 k) := by decide +kernel
def RX3 : String := "PackExchange$Talk"
def TX3 : u_T := fun k => match k with
  | 0 => ("PackExchange$Talk", "sent", "I", false)
  | 1 => ("PackExchange$Talk", "acknowledged", "I", false)
  | _ => ("PackExchange$Talk", "rounds", "I", false)
def tyX3 : Nat → FieldType := fun k => match k with
  | 0 => .int
  | 1 => .int
  | _ => .int
theorem nX3 : ∀ a, a < 3 → ∀ b, b < 3 → a ≠ b → (TX3 a).2.1 ≠ (TX3 b).2.1 := by decide +kernel
theorem tyX3_ok : ∀ k, k < 3 → parseFieldDescriptor (TX3 k).2.2.1 = some (tyX3 k) := by decide +kernel
def RX4 : String := "PackExchange"
def TX4 : u_T := fun k => match k with
  | 0 => ("PackExchange", "store", "LPackExchange$Store;", true)
  | 1 => ("PackExchange", "nodes", "[LPackExchange$Node;", true)
  | 2 => ("PackExchange", "latestTalk", "LPackExchange$Talk;", true)
  | 3 => ("PackExchange", "latestPack", "LPackExchange$Pack;", true)
  | 4 => ("PackExchange", "verdicts", "[I", true)
  | _ => ("PackExchange", "targets", "[I", true)
def tyX4 : Nat → FieldType := fun k => match k with
  | 0 => .object "PackExchange$Store"
  | 1 => .array (.object "PackExchange$Node")
  | 2 => .object "PackExchange$Talk"
  | 3 => .object "PackExchange$Pack"
  | 4 => .array .int
  | _ => .array .int
theorem nX4 : ∀ a, a < 6 → ∀ b, b < 6 → a ≠ b → (TX4 a).2.1 ≠ (TX4 b).2.1 := by decide +kernel
theorem tyX4_ok : ∀ k, k < 6 → parseFieldDescriptor (TX4 k).2.2.1 = some (tyX4 k) := by decide +kernel
def RX5 : String := "PackExchangeModel"
def TX5 : u_T := fun k => match k with
  | 0 => ("PackExchangeModel", "objects", "I", false)
  | 1 => ("PackExchangeModel", "kind", "[I", true)
  | 2 => ("PackExchangeModel", "one", "[I", true)
  | 3 => ("PackExchangeModel", "two", "[I", true)
  | 4 => ("PackExchangeModel", "three", "[I", true)
  | 5 => ("PackExchangeModel", "held", "[J", true)
  | 6 => ("PackExchangeModel", "ref", "[I", true)
  | 7 => ("PackExchangeModel", "dark", "[Z", true)
  | 8 => ("PackExchangeModel", "fuse", "[I", true)
  | 9 => ("PackExchangeModel", "noted", "[I", true)
  | 10 => ("PackExchangeModel", "sealed", "[Z", true)
  | 11 => ("PackExchangeModel", "noteRef", "[I", true)
  | 12 => ("PackExchangeModel", "noteValue", "[I", true)
  | 13 => ("PackExchangeModel", "wishes", "I", false)
  | 14 => ("PackExchangeModel", "wishRef", "[I", true)
  | 15 => ("PackExchangeModel", "wishValue", "[I", true)
  | 16 => ("PackExchangeModel", "haves", "I", false)
  | 17 => ("PackExchangeModel", "acks", "I", false)
  | 18 => ("PackExchangeModel", "rounds", "I", false)
  | 19 => ("PackExchangeModel", "verdicts", "[I", true)
  | 20 => ("PackExchangeModel", "size", "I", false)
  | 21 => ("PackExchangeModel", "at", "[I", true)
  | 22 => ("PackExchangeModel", "bases", "[I", true)
  | 23 => ("PackExchangeModel", "chain", "[I", true)
  | _ => ("PackExchangeModel", "weights", "[I", true)
def tyX5 : Nat → FieldType := fun k => match k with
  | 0 => .int
  | 1 => .array .int
  | 2 => .array .int
  | 3 => .array .int
  | 4 => .array .int
  | 5 => .array .long
  | 6 => .array .int
  | 7 => .array .boolean
  | 8 => .array .int
  | 9 => .array .int
  | 10 => .array .boolean
  | 11 => .array .int
  | 12 => .array .int
  | 13 => .int
  | 14 => .array .int
  | 15 => .array .int
  | 16 => .int
  | 17 => .int
  | 18 => .int
  | 19 => .array .int
  | 20 => .int
  | 21 => .array .int
  | 22 => .array .int
  | 23 => .array .int
  | _ => .array .int
theorem nX5 : ∀ a, a < 25 → ∀ b, b < 25 → a ≠ b → (TX5 a).2.1 ≠ (TX5 b).2.1 := by decide +kernel
theorem tyX5_ok : ∀ k, k < 25 → parseFieldDescriptor (TX5 k).2.2.1 = some (tyX5 k) := by decide +kernel
def RJL : String := "java/lang/Long"
def RL : String := "PackExchangeLaw"
abbrev cXL_law : ByteArray := code
abbrev cX4_isNode : ByteArray := prog_1_method_21_code
def yX4_isNode : MethodName := ⟨RX4, "isNode", "(I)Z"⟩
abbrev cX4_isClient : ByteArray := prog_1_method_22_code
def yX4_isClient : MethodName := ⟨RX4, "isClient", "(I)Z"⟩
abbrev cX4_isOwnReference : ByteArray := prog_1_method_23_code
def yX4_isOwnReference : MethodName := ⟨RX4, "isOwnReference", "(I)Z"⟩
abbrev cX4_isSet : ByteArray := prog_1_method_24_code
def yX4_isSet : MethodName := ⟨RX4, "isSet", "(I)Z"⟩
abbrev cX4_isIn : ByteArray := prog_1_method_25_code
def yX4_isIn : MethodName := ⟨RX4, "isIn", "(JI)Z"⟩
abbrev cX4_isChosen : ByteArray := prog_1_method_26_code
def yX4_isChosen : MethodName := ⟨RX4, "isChosen", "(II)Z"⟩
abbrev cX0_isUp : ByteArray := prog_2_method_2_code
def yX0_isUp : MethodName := ⟨RX0, "isUp", "()Z"⟩
abbrev cX0_armWith : ByteArray := prog_2_method_3_code
def yX0_armWith : MethodName := ⟨RX0, "armWith", "(I)V"⟩
abbrev cX0_write : ByteArray := prog_2_method_4_code
def yX0_write : MethodName := ⟨RX0, "write", "()Z"⟩
abbrev cX0_heldSet : ByteArray := prog_2_method_5_code
def yX0_heldSet : MethodName := ⟨RX0, "heldSet", "()J"⟩
abbrev cX0_keep : ByteArray := prog_2_method_6_code
def yX0_keep : MethodName := ⟨RX0, "keep", "(I)V"⟩
abbrev cJL_bitCount : ByteArray := prog_8_method_50_code
def yJL_bitCount : MethodName := ⟨RJL, "bitCount", "(J)I"⟩
abbrev cX0_keepOnly : ByteArray := prog_2_method_7_code
def yX0_keepOnly : MethodName := ⟨RX0, "keepOnly", "(J)I"⟩
abbrev cX0_valueOf : ByteArray := prog_2_method_9_code
def yX0_valueOf : MethodName := ⟨RX0, "valueOf", "(I)I"⟩
abbrev cX0_writeMissing : ByteArray := prog_2_method_8_code
def yX0_writeMissing : MethodName := ⟨RX0, "writeMissing", "(J)Z"⟩
abbrev cX0_hasValues : ByteArray := prog_2_method_10_code
def yX0_hasValues : MethodName := ⟨RX0, "hasValues", "(I)Z"⟩
abbrev cX0_commitsOf : ByteArray := prog_2_method_11_code
def yX0_commitsOf : MethodName := ⟨RX0, "commitsOf", "(I)J"⟩
abbrev cX0_emptyLog : ByteArray := prog_2_method_15_code
def yX0_emptyLog : MethodName := ⟨RX0, "emptyLog", "()Z"⟩
abbrev cX0_carryOutLog : ByteArray := prog_2_method_14_code
def yX0_carryOutLog : MethodName := ⟨RX0, "carryOutLog", "()Z"⟩
abbrev cX0_transact : ByteArray := prog_2_method_12_code
def yX0_transact : MethodName := ⟨RX0, "transact", "([I)Z"⟩
abbrev cX0_restore : ByteArray := prog_2_method_13_code
def yX0_restore : MethodName := ⟨RX0, "restore", "()I"⟩
abbrev cX2_isFull : ByteArray := prog_4_method_2_code
def yX2_isFull : MethodName := ⟨RX2, "isFull", "()Z"⟩
abbrev cX2_isNumber : ByteArray := prog_4_method_12_code
def yX2_isNumber : MethodName := ⟨RX2, "isNumber", "(I)Z"⟩
abbrev cX2_isOfKind : ByteArray := prog_4_method_3_code
def yX2_isOfKind : MethodName := ⟨RX2, "isOfKind", "(II)Z"⟩
abbrev cX2_reachOf : ByteArray := prog_4_method_6_code
def yX2_reachOf : MethodName := ⟨RX2, "reachOf", "(I)J"⟩
abbrev cX2_contentOf : ByteArray := prog_4_method_10_code
def yX2_contentOf : MethodName := ⟨RX2, "contentOf", "(I)I"⟩
abbrev cX2_partsOf : ByteArray := prog_4_method_11_code
def yX2_partsOf : MethodName := ⟨RX2, "partsOf", "(I)I"⟩
abbrev cX2_find : ByteArray := prog_4_method_4_code
def yX2_find : MethodName := ⟨RX2, "find", "(IIII)I"⟩
abbrev cX2_add : ByteArray := prog_4_method_5_code
def yX2_add : MethodName := ⟨RX2, "add", "(IIII)I"⟩
abbrev cX2_reachOfAll : ByteArray := prog_4_method_7_code
def yX2_reachOfAll : MethodName := ⟨RX2, "reachOfAll", "(J)J"⟩
abbrev cX2_eachReachesOne : ByteArray := prog_4_method_8_code
def yX2_eachReachesOne : MethodName := ⟨RX2, "eachReachesOne", "(JJ)Z"⟩
abbrev cX2_allOfKind : ByteArray := prog_4_method_9_code
def yX2_allOfKind : MethodName := ⟨RX2, "allOfKind", "(I)J"⟩
abbrev cX3_highest : ByteArray := prog_5_method_6_code
def yX3_highest : MethodName := ⟨RX3, "highest", "(J)J"⟩
abbrev cX3_havesSent : ByteArray := prog_5_method_3_code
def yX3_havesSent : MethodName := ⟨RX3, "havesSent", "()I"⟩
abbrev cX3_havesAcknowledged : ByteArray := prog_5_method_4_code
def yX3_havesAcknowledged : MethodName := ⟨RX3, "havesAcknowledged", "()I"⟩
abbrev cX3_roundsHeld : ByteArray := prog_5_method_5_code
def yX3_roundsHeld : MethodName := ⟨RX3, "roundsHeld", "()I"⟩
abbrev cX3_run : ByteArray := prog_5_method_2_code
def yX3_run : MethodName := ⟨RX3, "run", "(LPackExchange$Store;JJJ)J"⟩
abbrev cX1_memberSet : ByteArray := prog_3_method_3_code
def yX1_memberSet : MethodName := ⟨RX1, "memberSet", "()J"⟩
abbrev cX1_length : ByteArray := prog_3_method_4_code
def yX1_length : MethodName := ⟨RX1, "length", "()I"⟩
abbrev cX1_totalWeight : ByteArray := prog_3_method_5_code
def yX1_totalWeight : MethodName := ⟨RX1, "totalWeight", "()I"⟩
abbrev cX1_isPlace : ByteArray := prog_3_method_8_code
def yX1_isPlace : MethodName := ⟨RX1, "isPlace", "(I)Z"⟩
abbrev cX1_objectAt : ByteArray := prog_3_method_6_code
def yX1_objectAt : MethodName := ⟨RX1, "objectAt", "(I)I"⟩
abbrev cX1_baseAt : ByteArray := prog_3_method_7_code
def yX1_baseAt : MethodName := ⟨RX1, "baseAt", "(I)I"⟩
abbrev cX1_differingDigits : ByteArray := prog_3_method_11_code
def yX1_differingDigits : MethodName := ⟨RX1, "differingDigits", "(II)I"⟩
abbrev cX1_chooseBase : ByteArray := prog_3_method_10_code
def yX1_chooseBase : MethodName := ⟨RX1, "chooseBase", "(LPackExchange$Store;I)I"⟩
abbrev cX1_placeKind : ByteArray := prog_3_method_9_code
def yX1_placeKind : MethodName := ⟨RX1, "placeKind", "(LPackExchange$Store;I)V"⟩
abbrev cX1_fill : ByteArray := prog_3_method_2_code
def yX1_fill : MethodName := ⟨RX1, "fill", "(LPackExchange$Store;J)V"⟩
abbrev cX4_holdsKind : ByteArray := prog_1_method_27_code
def yX4_holdsKind : MethodName := ⟨RX4, "holdsKind", "(LPackExchange$Node;II)Z"⟩
abbrev cX4_isEntry : ByteArray := prog_1_method_28_code
def yX4_isEntry : MethodName := ⟨RX4, "isEntry", "(LPackExchange$Node;I)Z"⟩
abbrev cX4_isCommitOrAbsent : ByteArray := prog_1_method_29_code
def yX4_isCommitOrAbsent : MethodName := ⟨RX4, "isCommitOrAbsent", "(LPackExchange$Node;I)Z"⟩
abbrev cX4_writeObject : ByteArray := prog_1_method_30_code
def yX4_writeObject : MethodName := ⟨RX4, "writeObject", "(LPackExchange$Node;IIII)I"⟩
abbrev cX4_clearTargets : ByteArray := prog_1_method_31_code
def yX4_clearTargets : MethodName := ⟨RX4, "clearTargets", "()V"⟩
abbrev cX4_aimAtOne : ByteArray := prog_1_method_32_code
def yX4_aimAtOne : MethodName := ⟨RX4, "aimAtOne", "(II)V"⟩
abbrev cX4_aimAtValues : ByteArray := prog_1_method_33_code
def yX4_aimAtValues : MethodName := ⟨RX4, "aimAtValues", "(LPackExchange$Node;II)V"⟩
abbrev cX4_verdictOn : ByteArray := prog_1_method_35_code
def yX4_verdictOn : MethodName := ⟨RX4, "verdictOn", "(LPackExchange$Node;LPackExchange$Node;I)I"⟩
abbrev cX4_judge : ByteArray := prog_1_method_34_code
def yX4_judge : MethodName := ⟨RX4, "judge", "(LPackExchange$Node;LPackExchange$Node;I)Z"⟩
abbrev cX4_carryOutPush : ByteArray := prog_1_method_36_code
def yX4_carryOutPush : MethodName := ⟨RX4, "carryOutPush", "(LPackExchange$Node;LPackExchange$Node;I)Z"⟩
abbrev cX4_blob : ByteArray := prog_1_method_2_code
def yX4_blob : MethodName := ⟨RX4, "blob", "(II)I"⟩
abbrev cX4_tree : ByteArray := prog_1_method_3_code
def yX4_tree : MethodName := ⟨RX4, "tree", "(III)I"⟩
abbrev cX4_commit : ByteArray := prog_1_method_4_code
def yX4_commit : MethodName := ⟨RX4, "commit", "(IIII)I"⟩
abbrev cX4_point : ByteArray := prog_1_method_5_code
def yX4_point : MethodName := ⟨RX4, "point", "(III)I"⟩
abbrev cX4_fetch : ByteArray := prog_1_method_6_code
def yX4_fetch : MethodName := ⟨RX4, "fetch", "(II)I"⟩
abbrev cX4_push : ByteArray := prog_1_method_7_code
def yX4_push : MethodName := ⟨RX4, "push", "(II)I"⟩
abbrev cX4_arm : ByteArray := prog_1_method_8_code
def yX4_arm : MethodName := ⟨RX4, "arm", "(II)Z"⟩
abbrev cX4_recover : ByteArray := prog_1_method_9_code
def yX4_recover : MethodName := ⟨RX4, "recover", "(I)I"⟩
abbrev cX4_collect : ByteArray := prog_1_method_10_code
def yX4_collect : MethodName := ⟨RX4, "collect", "(I)I"⟩
abbrev cX4_up : ByteArray := prog_1_method_11_code
def yX4_up : MethodName := ⟨RX4, "up", "(I)Z"⟩
abbrev cX4_reference : ByteArray := prog_1_method_12_code
def yX4_reference : MethodName := ⟨RX4, "reference", "(II)I"⟩
abbrev cX4_holds : ByteArray := prog_1_method_13_code
def yX4_holds : MethodName := ⟨RX4, "holds", "(II)I"⟩
abbrev cX4_count : ByteArray := prog_1_method_14_code
def yX4_count : MethodName := ⟨RX4, "count", "(I)I"⟩
abbrev cX4_talk : ByteArray := prog_1_method_15_code
def yX4_talk : MethodName := ⟨RX4, "talk", "(I)I"⟩
abbrev cX4_packed : ByteArray := prog_1_method_16_code
def yX4_packed : MethodName := ⟨RX4, "packed", "()I"⟩
abbrev cX4_packAt : ByteArray := prog_1_method_17_code
def yX4_packAt : MethodName := ⟨RX4, "packAt", "(I)I"⟩
abbrev cX4_base : ByteArray := prog_1_method_18_code
def yX4_base : MethodName := ⟨RX4, "base", "(I)I"⟩
abbrev cX4_weight : ByteArray := prog_1_method_19_code
def yX4_weight : MethodName := ⟨RX4, "weight", "()I"⟩
abbrev cX4_verdict : ByteArray := prog_1_method_20_code
def yX4_verdict : MethodName := ⟨RX4, "verdict", "(I)I"⟩
abbrev cX5_isNode : ByteArray := prog_7_method_2_code
def yX5_isNode : MethodName := ⟨RX5, "isNode", "(I)Z"⟩
abbrev cX5_many : ByteArray := prog_7_method_5_code
def yX5_many : MethodName := ⟨RX5, "many", "(J)I"⟩
abbrev cX5_has : ByteArray := prog_7_method_3_code
def yX5_has : MethodName := ⟨RX5, "has", "(II)Z"⟩
abbrev cX5_reach : ByteArray := prog_7_method_4_code
def yX5_reach : MethodName := ⟨RX5, "reach", "(J)J"⟩
abbrev cX5_tips : ByteArray := prog_7_method_6_code
def yX5_tips : MethodName := ⟨RX5, "tips", "(III)J"⟩
abbrev cX5_write : ByteArray := prog_7_method_7_code
def yX5_write : MethodName := ⟨RX5, "write", "(I)Z"⟩
abbrev cX5_store : ByteArray := prog_7_method_8_code
def yX5_store : MethodName := ⟨RX5, "store", "(IJ)Z"⟩
abbrev cX5_wish : ByteArray := prog_7_method_9_code
def yX5_wish : MethodName := ⟨RX5, "wish", "(II)V"⟩
abbrev cX5_wipe : ByteArray := prog_7_method_12_code
def yX5_wipe : MethodName := ⟨RX5, "wipe", "(I)Z"⟩
abbrev cX5_replay : ByteArray := prog_7_method_11_code
def yX5_replay : MethodName := ⟨RX5, "replay", "(I)Z"⟩
abbrev cX5_transact : ByteArray := prog_7_method_10_code
def yX5_transact : MethodName := ⟨RX5, "transact", "(I)Z"⟩
abbrev cX5_make : ByteArray := prog_7_method_13_code
def yX5_make : MethodName := ⟨RX5, "make", "(IIIII)I"⟩
abbrev cX5_entry : ByteArray := prog_7_method_15_code
def yX5_entry : MethodName := ⟨RX5, "entry", "(II)Z"⟩
abbrev cX5_blob : ByteArray := prog_7_method_14_code
def yX5_blob : MethodName := ⟨RX5, "blob", "(II)I"⟩
abbrev cX5_tree : ByteArray := prog_7_method_16_code
def yX5_tree : MethodName := ⟨RX5, "tree", "(III)I"⟩
abbrev cX5_commit : ByteArray := prog_7_method_17_code
def yX5_commit : MethodName := ⟨RX5, "commit", "(IIII)I"⟩
abbrev cX5_point : ByteArray := prog_7_method_18_code
def yX5_point : MethodName := ⟨RX5, "point", "(III)I"⟩
abbrev cX5_place : ByteArray := prog_7_method_19_code
def yX5_place : MethodName := ⟨RX5, "place", "(I)V"⟩
abbrev cX5_pack : ByteArray := prog_7_method_20_code
def yX5_pack : MethodName := ⟨RX5, "pack", "(J)V"⟩
abbrev cX5_allReach : ByteArray := prog_7_method_21_code
def yX5_allReach : MethodName := ⟨RX5, "allReach", "(JJ)Z"⟩
abbrev cX5_converse : ByteArray := prog_7_method_22_code
def yX5_converse : MethodName := ⟨RX5, "converse", "(IJ)J"⟩
abbrev cX5_fetch : ByteArray := prog_7_method_23_code
def yX5_fetch : MethodName := ⟨RX5, "fetch", "(II)I"⟩
abbrev cX5_judge : ByteArray := prog_7_method_25_code
def yX5_judge : MethodName := ⟨RX5, "judge", "(III)I"⟩
abbrev cX5_carry : ByteArray := prog_7_method_26_code
def yX5_carry : MethodName := ⟨RX5, "carry", "(II)Z"⟩
abbrev cX5_push : ByteArray := prog_7_method_24_code
def yX5_push : MethodName := ⟨RX5, "push", "(II)I"⟩
abbrev cX5_arm : ByteArray := prog_7_method_27_code
def yX5_arm : MethodName := ⟨RX5, "arm", "(II)Z"⟩
abbrev cX5_recover : ByteArray := prog_7_method_28_code
def yX5_recover : MethodName := ⟨RX5, "recover", "(I)I"⟩
abbrev cX5_collect : ByteArray := prog_7_method_29_code
def yX5_collect : MethodName := ⟨RX5, "collect", "(I)I"⟩
abbrev cX5_up : ByteArray := prog_7_method_30_code
def yX5_up : MethodName := ⟨RX5, "up", "(I)Z"⟩
abbrev cX5_reference : ByteArray := prog_7_method_31_code
def yX5_reference : MethodName := ⟨RX5, "reference", "(II)I"⟩
abbrev cX5_holds : ByteArray := prog_7_method_32_code
def yX5_holds : MethodName := ⟨RX5, "holds", "(II)I"⟩
abbrev cX5_count : ByteArray := prog_7_method_33_code
def yX5_count : MethodName := ⟨RX5, "count", "(I)I"⟩
abbrev cX5_talk : ByteArray := prog_7_method_34_code
def yX5_talk : MethodName := ⟨RX5, "talk", "(I)I"⟩
abbrev cX5_packed : ByteArray := prog_7_method_35_code
def yX5_packed : MethodName := ⟨RX5, "packed", "()I"⟩
abbrev cX5_packAt : ByteArray := prog_7_method_36_code
def yX5_packAt : MethodName := ⟨RX5, "packAt", "(I)I"⟩
abbrev cX5_base : ByteArray := prog_7_method_37_code
def yX5_base : MethodName := ⟨RX5, "base", "(I)I"⟩
abbrev cX5_weight : ByteArray := prog_7_method_38_code
def yX5_weight : MethodName := ⟨RX5, "weight", "()I"⟩
abbrev cX5_verdict : ByteArray := prog_7_method_39_code
def yX5_verdict : MethodName := ⟨RX5, "verdict", "(I)I"⟩
abbrev cX0_init : ByteArray := prog_2_method_1_code
def yX0_init : MethodName := ⟨RX0, "<init>", "()V"⟩
abbrev cX1_init : ByteArray := prog_3_method_1_code
def yX1_init : MethodName := ⟨RX1, "<init>", "()V"⟩
abbrev cX2_init : ByteArray := prog_4_method_1_code
def yX2_init : MethodName := ⟨RX2, "<init>", "()V"⟩
abbrev cX3_init : ByteArray := prog_5_method_1_code
def yX3_init : MethodName := ⟨RX3, "<init>", "()V"⟩
abbrev cX4_init : ByteArray := prog_1_method_1_code
def yX4_init : MethodName := ⟨RX4, "<init>", "()V"⟩
abbrev cX5_init : ByteArray := prog_7_method_1_code
def yX5_init : MethodName := ⟨RX5, "<init>", "()V"⟩
abbrev vwCl : List vw_C := [(RX0, TX0, 7), (RX1, TX1, 6), (RX2, TX2, 6), (RX3, TX3, 3), (RX4, TX4, 6), (RX5, TX5, 25)]
/-- the words that stay: those of the tables that a callee may ask for -/
def yW : List Cond := lw_tbl.filter goodWord
theorem yW_of {w : Cond} (h : w ∈ lw_tbl) (hg : goodWord w = true) : w ∈ yW := List.mem_filter.mpr ⟨h, hg⟩
set_option maxRecDepth 20000 in
theorem wq_0 : Cond.selects RX4 yX4_writeObject yX4_writeObject ∈ yW := yW_of (List.mem_append_left _ (List.mem_of_getElem? (i := 0) rfl)) rfl
set_option maxRecDepth 20000 in
theorem wq_1 : Cond.selects RX2 yX2_isNumber yX2_isNumber ∈ yW := yW_of (List.mem_append_left _ (List.mem_of_getElem? (i := 1) rfl)) rfl
set_option maxRecDepth 20000 in
theorem wq_2 : Cond.selects RX4 yX4_isEntry yX4_isEntry ∈ yW := yW_of (List.mem_append_left _ (List.mem_of_getElem? (i := 2) rfl)) rfl
set_option maxRecDepth 20000 in
theorem wq_3 : Cond.selects RX4 yX4_holdsKind yX4_holdsKind ∈ yW := yW_of (List.mem_append_left _ (List.mem_of_getElem? (i := 3) rfl)) rfl
set_option maxRecDepth 20000 in
theorem wq_4 : Cond.selects RX4 yX4_isCommitOrAbsent yX4_isCommitOrAbsent ∈ yW := yW_of (List.mem_append_left _ (List.mem_of_getElem? (i := 4) rfl)) rfl
set_option maxRecDepth 20000 in
theorem wq_5 : Cond.selects RX4 yX4_aimAtOne yX4_aimAtOne ∈ yW := yW_of (List.mem_append_left _ (List.mem_of_getElem? (i := 5) rfl)) rfl
set_option maxRecDepth 20000 in
theorem wq_6 : Cond.selects RX4 yX4_clearTargets yX4_clearTargets ∈ yW := yW_of (List.mem_append_left _ (List.mem_of_getElem? (i := 6) rfl)) rfl
set_option maxRecDepth 20000 in
theorem wq_7 : Cond.selects RX0 yX0_carryOutLog yX0_carryOutLog ∈ yW := yW_of (List.mem_append_left _ (List.mem_of_getElem? (i := 7) rfl)) rfl
set_option maxRecDepth 20000 in
theorem wq_8 : Cond.selects RX0 yX0_emptyLog yX0_emptyLog ∈ yW := yW_of (List.mem_append_left _ (List.mem_of_getElem? (i := 8) rfl)) rfl
set_option maxRecDepth 20000 in
theorem wq_9 : Cond.selects RX1 yX1_placeKind yX1_placeKind ∈ yW := yW_of (List.mem_append_left _ (List.mem_of_getElem? (i := 9) rfl)) rfl
set_option maxRecDepth 20000 in
theorem wq_10 : Cond.selects RX1 yX1_chooseBase yX1_chooseBase ∈ yW := yW_of (List.mem_append_left _ (List.mem_of_getElem? (i := 10) rfl)) rfl
set_option maxRecDepth 20000 in
theorem wq_11 : Cond.selects RX4 yX4_aimAtValues yX4_aimAtValues ∈ yW := yW_of (List.mem_append_left _ (List.mem_of_getElem? (i := 11) rfl)) rfl
set_option maxRecDepth 20000 in
theorem wq_12 : Cond.selects RX4 yX4_judge yX4_judge ∈ yW := yW_of (List.mem_append_left _ (List.mem_of_getElem? (i := 12) rfl)) rfl
set_option maxRecDepth 20000 in
theorem wq_13 : Cond.selects RX4 yX4_verdictOn yX4_verdictOn ∈ yW := yW_of (List.mem_append_left _ (List.mem_of_getElem? (i := 13) rfl)) rfl
set_option maxRecDepth 20000 in
theorem wq_14 : Cond.selects RX4 yX4_carryOutPush yX4_carryOutPush ∈ yW := yW_of (List.mem_append_left _ (List.mem_of_getElem? (i := 14) rfl)) rfl
set_option maxRecDepth 20000 in
theorem wq_15 : Cond.selects RX1 yX1_isPlace yX1_isPlace ∈ yW := yW_of (List.mem_append_left _ (List.mem_of_getElem? (i := 15) rfl)) rfl
set_option maxRecDepth 20000 in
theorem wq_16 : Cond.selects RX5 yX5_make yX5_make ∈ yW := yW_of (List.mem_append_left _ (List.mem_of_getElem? (i := 16) rfl)) rfl
set_option maxRecDepth 20000 in
theorem wq_17 : Cond.selects RX5 yX5_has yX5_has ∈ yW := yW_of (List.mem_append_left _ (List.mem_of_getElem? (i := 17) rfl)) rfl
set_option maxRecDepth 20000 in
theorem wq_18 : Cond.selects RX5 yX5_write yX5_write ∈ yW := yW_of (List.mem_append_left _ (List.mem_of_getElem? (i := 18) rfl)) rfl
set_option maxRecDepth 20000 in
theorem wq_19 : Cond.selects RX5 yX5_entry yX5_entry ∈ yW := yW_of (List.mem_append_left _ (List.mem_of_getElem? (i := 19) rfl)) rfl
set_option maxRecDepth 20000 in
theorem wq_20 : Cond.selects RX5 yX5_wish yX5_wish ∈ yW := yW_of (List.mem_append_left _ (List.mem_of_getElem? (i := 20) rfl)) rfl
set_option maxRecDepth 20000 in
theorem wq_21 : Cond.selects RX5 yX5_transact yX5_transact ∈ yW := yW_of (List.mem_append_left _ (List.mem_of_getElem? (i := 21) rfl)) rfl
set_option maxRecDepth 20000 in
theorem wq_22 : Cond.selects RX5 yX5_replay yX5_replay ∈ yW := yW_of (List.mem_append_left _ (List.mem_of_getElem? (i := 22) rfl)) rfl
set_option maxRecDepth 20000 in
theorem wq_23 : Cond.selects RX5 yX5_wipe yX5_wipe ∈ yW := yW_of (List.mem_append_left _ (List.mem_of_getElem? (i := 23) rfl)) rfl
set_option maxRecDepth 20000 in
theorem wq_24 : Cond.selects RX5 yX5_converse yX5_converse ∈ yW := yW_of (List.mem_append_left _ (List.mem_of_getElem? (i := 24) rfl)) rfl
set_option maxRecDepth 20000 in
theorem wq_25 : Cond.selects RX5 yX5_tips yX5_tips ∈ yW := yW_of (List.mem_append_left _ (List.mem_of_getElem? (i := 25) rfl)) rfl
set_option maxRecDepth 20000 in
theorem wq_26 : Cond.selects RX5 yX5_reach yX5_reach ∈ yW := yW_of (List.mem_append_left _ (List.mem_of_getElem? (i := 26) rfl)) rfl
set_option maxRecDepth 20000 in
theorem wq_27 : Cond.selects RX5 yX5_allReach yX5_allReach ∈ yW := yW_of (List.mem_append_left _ (List.mem_of_getElem? (i := 27) rfl)) rfl
set_option maxRecDepth 20000 in
theorem wq_28 : Cond.selects RX5 yX5_pack yX5_pack ∈ yW := yW_of (List.mem_append_left _ (List.mem_of_getElem? (i := 28) rfl)) rfl
set_option maxRecDepth 20000 in
theorem wq_29 : Cond.selects RX5 yX5_place yX5_place ∈ yW := yW_of (List.mem_append_left _ (List.mem_of_getElem? (i := 29) rfl)) rfl
set_option maxRecDepth 20000 in
theorem wq_30 : Cond.selects RX5 yX5_store yX5_store ∈ yW := yW_of (List.mem_append_left _ (List.mem_of_getElem? (i := 30) rfl)) rfl
set_option maxRecDepth 20000 in
theorem wq_31 : Cond.selects RX5 yX5_judge yX5_judge ∈ yW := yW_of (List.mem_append_left _ (List.mem_of_getElem? (i := 31) rfl)) rfl
set_option maxRecDepth 20000 in
theorem wq_32 : Cond.selects RX5 yX5_carry yX5_carry ∈ yW := yW_of (List.mem_append_left _ (List.mem_of_getElem? (i := 32) rfl)) rfl
set_option maxRecDepth 20000 in
theorem wq_34 : Cond.initialized RX4 ∈ yW := yW_of (List.mem_append_right _ (List.mem_of_getElem? (i := 1) rfl)) rfl
set_option maxRecDepth 20000 in
theorem wq_35 : Cond.initialized RX2 ∈ yW := yW_of (List.mem_append_right _ (List.mem_of_getElem? (i := 2) rfl)) rfl
set_option maxRecDepth 20000 in
theorem wq_36 : Cond.initialized RX0 ∈ yW := yW_of (List.mem_append_right _ (List.mem_of_getElem? (i := 3) rfl)) rfl
set_option maxRecDepth 20000 in
theorem wq_37 : Cond.initialized RX3 ∈ yW := yW_of (List.mem_append_right _ (List.mem_of_getElem? (i := 4) rfl)) rfl
set_option maxRecDepth 20000 in
theorem wq_38 : Cond.initialized RX1 ∈ yW := yW_of (List.mem_append_right _ (List.mem_of_getElem? (i := 5) rfl)) rfl
set_option maxRecDepth 20000 in
theorem wq_39 : Cond.initialized RX5 ∈ yW := yW_of (List.mem_append_right _ (List.mem_of_getElem? (i := 6) rfl)) rfl
set_option maxRecDepth 20000 in
theorem wq_40 : Cond.initialized RJL ∈ yW := yW_of (List.mem_append_right _ (List.mem_of_getElem? (i := 7) rfl)) rfl
set_option maxRecDepth 20000 in
theorem wq_41 : Cond.classLink RL 7 RX4 ∈ yW := yW_of (List.mem_append_right _ (List.mem_of_getElem? (i := 8) rfl)) rfl
set_option maxRecDepth 20000 in
theorem wq_42 : Cond.instantiable RX4 6 ∈ yW := yW_of (List.mem_append_right _ (List.mem_of_getElem? (i := 9) rfl)) rfl
set_option maxRecDepth 20000 in
theorem wq_43 : Cond.methodLink RL 9 yX4_init ∈ yW := yW_of (List.mem_append_right _ (List.mem_of_getElem? (i := 10) rfl)) rfl
set_option maxRecDepth 20000 in
theorem wq_44 : Cond.instanceMethod yX4_init ∈ yW := yW_of (List.mem_append_right _ (List.mem_of_getElem? (i := 11) rfl)) rfl
set_option maxRecDepth 20000 in
theorem wq_45 : Cond.code yX4_init cX4_init 2 none ∈ yW := yW_of (List.mem_append_right _ (List.mem_of_getElem? (i := 12) rfl)) rfl
set_option maxRecDepth 20000 in
theorem wq_46 : Cond.methodLink RX4 1 objectInit ∈ yW := yW_of (List.mem_append_right _ (List.mem_of_getElem? (i := 13) rfl)) rfl
set_option maxRecDepth 20000 in
theorem wq_47 : Cond.instanceMethod objectInit ∈ yW := yW_of (List.mem_append_right _ (List.mem_of_getElem? (i := 14) rfl)) rfl
set_option maxRecDepth 20000 in
theorem wq_48 : Cond.code objectInit ⟨#[0xb1]⟩ 1 none ∈ yW := yW_of (List.mem_append_right _ (List.mem_of_getElem? (i := 15) rfl)) rfl
set_option maxRecDepth 20000 in
theorem wq_49 : Cond.classLink RX4 7 RX2 ∈ yW := yW_of (List.mem_append_right _ (List.mem_of_getElem? (i := 16) rfl)) rfl
set_option maxRecDepth 20000 in
theorem wq_50 : Cond.instantiable RX2 6 ∈ yW := yW_of (List.mem_append_right _ (List.mem_of_getElem? (i := 17) rfl)) rfl
set_option maxRecDepth 20000 in
theorem wq_52 : Cond.instanceMethod yX2_init ∈ yW := yW_of (List.mem_append_right _ (List.mem_of_getElem? (i := 19) rfl)) rfl
set_option maxRecDepth 20000 in
theorem wq_53 : Cond.code yX2_init cX2_init 1 none ∈ yW := yW_of (List.mem_append_right _ (List.mem_of_getElem? (i := 20) rfl)) rfl
set_option maxRecDepth 20000 in
theorem wq_54 : Cond.methodLink RX2 3 objectInit ∈ yW := yW_of (List.mem_append_right _ (List.mem_of_getElem? (i := 21) rfl)) rfl
set_option maxRecDepth 20000 in
theorem wq_55 : Cond.fieldLink RX2 9 "PackExchange$Store" "kinds" "[I" ∈ yW := yW_of (List.mem_append_right _ (List.mem_of_getElem? (i := 22) rfl)) rfl
set_option maxRecDepth 20000 in
theorem wq_56 : Cond.fieldLink RX2 15 "PackExchange$Store" "firsts" "[I" ∈ yW := yW_of (List.mem_append_right _ (List.mem_of_getElem? (i := 23) rfl)) rfl
set_option maxRecDepth 20000 in
theorem wq_57 : Cond.fieldLink RX2 18 "PackExchange$Store" "seconds" "[I" ∈ yW := yW_of (List.mem_append_right _ (List.mem_of_getElem? (i := 24) rfl)) rfl
set_option maxRecDepth 20000 in
theorem wq_58 : Cond.fieldLink RX2 21 "PackExchange$Store" "thirds" "[I" ∈ yW := yW_of (List.mem_append_right _ (List.mem_of_getElem? (i := 25) rfl)) rfl
set_option maxRecDepth 20000 in
theorem wq_59 : Cond.fieldLink RX2 24 "PackExchange$Store" "reaches" "[J" ∈ yW := yW_of (List.mem_append_right _ (List.mem_of_getElem? (i := 26) rfl)) rfl
set_option maxRecDepth 20000 in
theorem wq_60 : Cond.fieldLink RX2 28 "PackExchange$Store" "size" "I" ∈ yW := yW_of (List.mem_append_right _ (List.mem_of_getElem? (i := 27) rfl)) rfl
set_option maxRecDepth 20000 in
theorem wq_74 : Cond.arrayClass .int ∈ yW := yW_of (List.mem_append_right _ (List.mem_of_getElem? (i := 41) rfl)) rfl
set_option maxRecDepth 20000 in
theorem wq_75 : Cond.arrayClass .long ∈ yW := yW_of (List.mem_append_right _ (List.mem_of_getElem? (i := 42) rfl)) rfl
set_option maxRecDepth 20000 in
theorem wq_76 : Cond.classLink RX4 16 RX0 ∈ yW := yW_of (List.mem_append_right _ (List.mem_of_getElem? (i := 43) rfl)) rfl
set_option maxRecDepth 20000 in
theorem wq_78 : Cond.instantiable RX0 7 ∈ yW := yW_of (List.mem_append_right _ (List.mem_of_getElem? (i := 45) rfl)) rfl
set_option maxRecDepth 20000 in
theorem wq_79 : Cond.methodLink RX4 22 yX0_init ∈ yW := yW_of (List.mem_append_right _ (List.mem_of_getElem? (i := 46) rfl)) rfl
set_option maxRecDepth 20000 in
theorem wq_80 : Cond.instanceMethod yX0_init ∈ yW := yW_of (List.mem_append_right _ (List.mem_of_getElem? (i := 47) rfl)) rfl
set_option maxRecDepth 20000 in
theorem wq_81 : Cond.code yX0_init cX0_init 2 none ∈ yW := yW_of (List.mem_append_right _ (List.mem_of_getElem? (i := 48) rfl)) rfl
set_option maxRecDepth 20000 in
theorem wq_82 : Cond.methodLink RX0 3 objectInit ∈ yW := yW_of (List.mem_append_right _ (List.mem_of_getElem? (i := 49) rfl)) rfl
set_option maxRecDepth 20000 in
theorem wq_83 : Cond.fieldLink RX0 9 "PackExchange$Node" "values" "[I" ∈ yW := yW_of (List.mem_append_right _ (List.mem_of_getElem? (i := 50) rfl)) rfl
set_option maxRecDepth 20000 in
theorem wq_84 : Cond.fieldLink RX0 15 "PackExchange$Node" "log" "[I" ∈ yW := yW_of (List.mem_append_right _ (List.mem_of_getElem? (i := 51) rfl)) rfl
set_option maxRecDepth 20000 in
theorem wq_85 : Cond.fieldLink RX0 18 "PackExchange$Node" "noted" "I" ∈ yW := yW_of (List.mem_append_right _ (List.mem_of_getElem? (i := 52) rfl)) rfl
set_option maxRecDepth 20000 in
theorem wq_86 : Cond.fieldLink RX0 22 "PackExchange$Node" "sealed" "Z" ∈ yW := yW_of (List.mem_append_right _ (List.mem_of_getElem? (i := 53) rfl)) rfl
set_option maxRecDepth 20000 in
theorem wq_87 : Cond.fieldLink RX0 26 "PackExchange$Node" "held" "J" ∈ yW := yW_of (List.mem_append_right _ (List.mem_of_getElem? (i := 54) rfl)) rfl
set_option maxRecDepth 20000 in
theorem wq_88 : Cond.fieldLink RX0 30 "PackExchange$Node" "powered" "Z" ∈ yW := yW_of (List.mem_append_right _ (List.mem_of_getElem? (i := 55) rfl)) rfl
set_option maxRecDepth 20000 in
theorem wq_89 : Cond.fieldLink RX0 33 "PackExchange$Node" "writesLeft" "I" ∈ yW := yW_of (List.mem_append_right _ (List.mem_of_getElem? (i := 56) rfl)) rfl
set_option maxRecDepth 20000 in
theorem wq_105 : Cond.classLink RX4 23 RX3 ∈ yW := yW_of (List.mem_append_right _ (List.mem_of_getElem? (i := 72) rfl)) rfl
set_option maxRecDepth 20000 in
theorem wq_106 : Cond.instantiable RX3 3 ∈ yW := yW_of (List.mem_append_right _ (List.mem_of_getElem? (i := 73) rfl)) rfl
set_option maxRecDepth 20000 in
theorem wq_108 : Cond.instanceMethod yX3_init ∈ yW := yW_of (List.mem_append_right _ (List.mem_of_getElem? (i := 75) rfl)) rfl
set_option maxRecDepth 20000 in
theorem wq_109 : Cond.code yX3_init cX3_init 1 none ∈ yW := yW_of (List.mem_append_right _ (List.mem_of_getElem? (i := 76) rfl)) rfl
set_option maxRecDepth 20000 in
theorem wq_110 : Cond.methodLink RX3 3 objectInit ∈ yW := yW_of (List.mem_append_right _ (List.mem_of_getElem? (i := 77) rfl)) rfl
set_option maxRecDepth 20000 in
theorem wq_111 : Cond.fieldLink RX3 9 "PackExchange$Talk" "sent" "I" ∈ yW := yW_of (List.mem_append_right _ (List.mem_of_getElem? (i := 78) rfl)) rfl
set_option maxRecDepth 20000 in
theorem wq_112 : Cond.fieldLink RX3 15 "PackExchange$Talk" "acknowledged" "I" ∈ yW := yW_of (List.mem_append_right _ (List.mem_of_getElem? (i := 79) rfl)) rfl
set_option maxRecDepth 20000 in
theorem wq_113 : Cond.fieldLink RX3 18 "PackExchange$Talk" "rounds" "I" ∈ yW := yW_of (List.mem_append_right _ (List.mem_of_getElem? (i := 80) rfl)) rfl
set_option maxRecDepth 20000 in
theorem wq_121 : Cond.classLink RX4 30 RX1 ∈ yW := yW_of (List.mem_append_right _ (List.mem_of_getElem? (i := 88) rfl)) rfl
set_option maxRecDepth 20000 in
theorem wq_122 : Cond.instantiable RX1 6 ∈ yW := yW_of (List.mem_append_right _ (List.mem_of_getElem? (i := 89) rfl)) rfl
set_option maxRecDepth 20000 in
theorem wq_124 : Cond.instanceMethod yX1_init ∈ yW := yW_of (List.mem_append_right _ (List.mem_of_getElem? (i := 91) rfl)) rfl
set_option maxRecDepth 20000 in
theorem wq_125 : Cond.code yX1_init cX1_init 1 none ∈ yW := yW_of (List.mem_append_right _ (List.mem_of_getElem? (i := 92) rfl)) rfl
set_option maxRecDepth 20000 in
theorem wq_126 : Cond.methodLink RX1 3 objectInit ∈ yW := yW_of (List.mem_append_right _ (List.mem_of_getElem? (i := 93) rfl)) rfl
set_option maxRecDepth 20000 in
theorem wq_127 : Cond.fieldLink RX1 9 "PackExchange$Pack" "objects" "[I" ∈ yW := yW_of (List.mem_append_right _ (List.mem_of_getElem? (i := 94) rfl)) rfl
set_option maxRecDepth 20000 in
theorem wq_128 : Cond.fieldLink RX1 15 "PackExchange$Pack" "bases" "[I" ∈ yW := yW_of (List.mem_append_right _ (List.mem_of_getElem? (i := 95) rfl)) rfl
set_option maxRecDepth 20000 in
theorem wq_129 : Cond.fieldLink RX1 18 "PackExchange$Pack" "chains" "[I" ∈ yW := yW_of (List.mem_append_right _ (List.mem_of_getElem? (i := 96) rfl)) rfl
set_option maxRecDepth 20000 in
theorem wq_130 : Cond.fieldLink RX1 21 "PackExchange$Pack" "members" "J" ∈ yW := yW_of (List.mem_append_right _ (List.mem_of_getElem? (i := 97) rfl)) rfl
set_option maxRecDepth 20000 in
theorem wq_131 : Cond.fieldLink RX1 25 "PackExchange$Pack" "size" "I" ∈ yW := yW_of (List.mem_append_right _ (List.mem_of_getElem? (i := 98) rfl)) rfl
set_option maxRecDepth 20000 in
theorem wq_132 : Cond.fieldLink RX1 29 "PackExchange$Pack" "total" "I" ∈ yW := yW_of (List.mem_append_right _ (List.mem_of_getElem? (i := 99) rfl)) rfl
set_option maxRecDepth 20000 in
theorem wq_146 : Cond.fieldLink RX4 10 "PackExchange" "store" "LPackExchange$Store;" ∈ yW := yW_of (List.mem_append_right _ (List.mem_of_getElem? (i := 113) rfl)) rfl
set_option maxRecDepth 20000 in
theorem wq_147 : Cond.fieldLink RX4 18 "PackExchange" "nodes" "[LPackExchange$Node;" ∈ yW := yW_of (List.mem_append_right _ (List.mem_of_getElem? (i := 114) rfl)) rfl
set_option maxRecDepth 20000 in
theorem wq_148 : Cond.fieldLink RX4 26 "PackExchange" "latestTalk" "LPackExchange$Talk;" ∈ yW := yW_of (List.mem_append_right _ (List.mem_of_getElem? (i := 115) rfl)) rfl
set_option maxRecDepth 20000 in
theorem wq_149 : Cond.fieldLink RX4 33 "PackExchange" "latestPack" "LPackExchange$Pack;" ∈ yW := yW_of (List.mem_append_right _ (List.mem_of_getElem? (i := 116) rfl)) rfl
set_option maxRecDepth 20000 in
theorem wq_150 : Cond.fieldLink RX4 37 "PackExchange" "verdicts" "[I" ∈ yW := yW_of (List.mem_append_right _ (List.mem_of_getElem? (i := 117) rfl)) rfl
set_option maxRecDepth 20000 in
theorem wq_151 : Cond.fieldLink RX4 41 "PackExchange" "targets" "[I" ∈ yW := yW_of (List.mem_append_right _ (List.mem_of_getElem? (i := 118) rfl)) rfl
set_option maxRecDepth 20000 in
theorem wq_165 : Cond.methodLink RL 13 yX4_blob ∈ yW := yW_of (List.mem_append_right _ (List.mem_of_getElem? (i := 132) rfl)) rfl
set_option maxRecDepth 20000 in
theorem wq_166 : Cond.instanceMethod yX4_blob ∈ yW := yW_of (List.mem_append_right _ (List.mem_of_getElem? (i := 133) rfl)) rfl
set_option maxRecDepth 20000 in
theorem wq_167 : Cond.selects RX4 yX4_blob yX4_blob ∈ yW := yW_of (List.mem_append_right _ (List.mem_of_getElem? (i := 134) rfl)) rfl
set_option maxRecDepth 20000 in
theorem wq_168 : Cond.code yX4_blob cX4_blob 3 (some .int) ∈ yW := yW_of (List.mem_append_right _ (List.mem_of_getElem? (i := 135) rfl)) rfl
set_option maxRecDepth 20000 in
theorem wq_169 : Cond.methodLink RX4 44 yX4_isNode ∈ yW := yW_of (List.mem_append_right _ (List.mem_of_getElem? (i := 136) rfl)) rfl
set_option maxRecDepth 20000 in
theorem wq_170 : Cond.static yX4_isNode ∈ yW := yW_of (List.mem_append_right _ (List.mem_of_getElem? (i := 137) rfl)) rfl
set_option maxRecDepth 20000 in
theorem wq_171 : Cond.code yX4_isNode cX4_isNode 1 (some .boolean) ∈ yW := yW_of (List.mem_append_right _ (List.mem_of_getElem? (i := 138) rfl)) rfl
set_option maxRecDepth 20000 in
theorem wq_172 : Cond.methodLink RX4 48 yX0_isUp ∈ yW := yW_of (List.mem_append_right _ (List.mem_of_getElem? (i := 139) rfl)) rfl
set_option maxRecDepth 20000 in
theorem wq_173 : Cond.instanceMethod yX0_isUp ∈ yW := yW_of (List.mem_append_right _ (List.mem_of_getElem? (i := 140) rfl)) rfl
set_option maxRecDepth 20000 in
theorem wq_174 : Cond.selects RX0 yX0_isUp yX0_isUp ∈ yW := yW_of (List.mem_append_right _ (List.mem_of_getElem? (i := 141) rfl)) rfl
set_option maxRecDepth 20000 in
theorem wq_175 : Cond.code yX0_isUp cX0_isUp 1 (some .boolean) ∈ yW := yW_of (List.mem_append_right _ (List.mem_of_getElem? (i := 142) rfl)) rfl
set_option maxRecDepth 20000 in
theorem wq_176 : Cond.methodLink RX4 52 yX4_writeObject ∈ yW := yW_of (List.mem_append_right _ (List.mem_of_getElem? (i := 143) rfl)) rfl
set_option maxRecDepth 20000 in
theorem wq_178 : Cond.instanceMethod yX4_writeObject ∈ yW := yW_of (List.mem_append_right _ (List.mem_of_getElem? (i := 145) rfl)) rfl
set_option maxRecDepth 20000 in
theorem wq_179 : Cond.code yX4_writeObject cX4_writeObject 7 (some .int) ∈ yW := yW_of (List.mem_append_right _ (List.mem_of_getElem? (i := 146) rfl)) rfl
set_option maxRecDepth 20000 in
theorem wq_180 : Cond.methodLink RX4 180 yX2_find ∈ yW := yW_of (List.mem_append_right _ (List.mem_of_getElem? (i := 147) rfl)) rfl
set_option maxRecDepth 20000 in
theorem wq_181 : Cond.instanceMethod yX2_find ∈ yW := yW_of (List.mem_append_right _ (List.mem_of_getElem? (i := 148) rfl)) rfl
set_option maxRecDepth 20000 in
theorem wq_182 : Cond.selects RX2 yX2_find yX2_find ∈ yW := yW_of (List.mem_append_right _ (List.mem_of_getElem? (i := 149) rfl)) rfl
set_option maxRecDepth 20000 in
theorem wq_183 : Cond.code yX2_find cX2_find 6 (some .int) ∈ yW := yW_of (List.mem_append_right _ (List.mem_of_getElem? (i := 150) rfl)) rfl
set_option maxRecDepth 20000 in
theorem wq_184 : Cond.methodLink RX4 184 yX2_isFull ∈ yW := yW_of (List.mem_append_right _ (List.mem_of_getElem? (i := 151) rfl)) rfl
set_option maxRecDepth 20000 in
theorem wq_185 : Cond.instanceMethod yX2_isFull ∈ yW := yW_of (List.mem_append_right _ (List.mem_of_getElem? (i := 152) rfl)) rfl
set_option maxRecDepth 20000 in
theorem wq_186 : Cond.selects RX2 yX2_isFull yX2_isFull ∈ yW := yW_of (List.mem_append_right _ (List.mem_of_getElem? (i := 153) rfl)) rfl
set_option maxRecDepth 20000 in
theorem wq_187 : Cond.code yX2_isFull cX2_isFull 1 (some .boolean) ∈ yW := yW_of (List.mem_append_right _ (List.mem_of_getElem? (i := 154) rfl)) rfl
set_option maxRecDepth 20000 in
theorem wq_188 : Cond.methodLink RX4 92 yX0_heldSet ∈ yW := yW_of (List.mem_append_right _ (List.mem_of_getElem? (i := 155) rfl)) rfl
set_option maxRecDepth 20000 in
theorem wq_189 : Cond.instanceMethod yX0_heldSet ∈ yW := yW_of (List.mem_append_right _ (List.mem_of_getElem? (i := 156) rfl)) rfl
set_option maxRecDepth 20000 in
theorem wq_190 : Cond.selects RX0 yX0_heldSet yX0_heldSet ∈ yW := yW_of (List.mem_append_right _ (List.mem_of_getElem? (i := 157) rfl)) rfl
set_option maxRecDepth 20000 in
theorem wq_191 : Cond.code yX0_heldSet cX0_heldSet 1 (some .long) ∈ yW := yW_of (List.mem_append_right _ (List.mem_of_getElem? (i := 158) rfl)) rfl
set_option maxRecDepth 20000 in
theorem wq_192 : Cond.methodLink RX4 149 yX4_isIn ∈ yW := yW_of (List.mem_append_right _ (List.mem_of_getElem? (i := 159) rfl)) rfl
set_option maxRecDepth 20000 in
theorem wq_193 : Cond.static yX4_isIn ∈ yW := yW_of (List.mem_append_right _ (List.mem_of_getElem? (i := 160) rfl)) rfl
set_option maxRecDepth 20000 in
theorem wq_194 : Cond.code yX4_isIn cX4_isIn 3 (some .boolean) ∈ yW := yW_of (List.mem_append_right _ (List.mem_of_getElem? (i := 161) rfl)) rfl
set_option maxRecDepth 20000 in
theorem wq_195 : Cond.methodLink RX4 187 yX0_write ∈ yW := yW_of (List.mem_append_right _ (List.mem_of_getElem? (i := 162) rfl)) rfl
set_option maxRecDepth 20000 in
theorem wq_196 : Cond.instanceMethod yX0_write ∈ yW := yW_of (List.mem_append_right _ (List.mem_of_getElem? (i := 163) rfl)) rfl
set_option maxRecDepth 20000 in
theorem wq_197 : Cond.selects RX0 yX0_write yX0_write ∈ yW := yW_of (List.mem_append_right _ (List.mem_of_getElem? (i := 164) rfl)) rfl
set_option maxRecDepth 20000 in
theorem wq_198 : Cond.code yX0_write cX0_write 1 (some .boolean) ∈ yW := yW_of (List.mem_append_right _ (List.mem_of_getElem? (i := 165) rfl)) rfl
set_option maxRecDepth 20000 in
theorem wq_199 : Cond.methodLink RX4 190 yX2_add ∈ yW := yW_of (List.mem_append_right _ (List.mem_of_getElem? (i := 166) rfl)) rfl
set_option maxRecDepth 20000 in
theorem wq_200 : Cond.instanceMethod yX2_add ∈ yW := yW_of (List.mem_append_right _ (List.mem_of_getElem? (i := 167) rfl)) rfl
set_option maxRecDepth 20000 in
theorem wq_201 : Cond.selects RX2 yX2_add yX2_add ∈ yW := yW_of (List.mem_append_right _ (List.mem_of_getElem? (i := 168) rfl)) rfl
set_option maxRecDepth 20000 in
theorem wq_202 : Cond.code yX2_add cX2_add 8 (some .int) ∈ yW := yW_of (List.mem_append_right _ (List.mem_of_getElem? (i := 169) rfl)) rfl
set_option maxRecDepth 20000 in
theorem wq_203 : Cond.methodLink RX2 36 yX2_isFull ∈ yW := yW_of (List.mem_append_right _ (List.mem_of_getElem? (i := 170) rfl)) rfl
set_option maxRecDepth 20000 in
theorem wq_204 : Cond.methodLink RX2 40 yX2_reachOf ∈ yW := yW_of (List.mem_append_right _ (List.mem_of_getElem? (i := 171) rfl)) rfl
set_option maxRecDepth 20000 in
theorem wq_205 : Cond.instanceMethod yX2_reachOf ∈ yW := yW_of (List.mem_append_right _ (List.mem_of_getElem? (i := 172) rfl)) rfl
set_option maxRecDepth 20000 in
theorem wq_206 : Cond.selects RX2 yX2_reachOf yX2_reachOf ∈ yW := yW_of (List.mem_append_right _ (List.mem_of_getElem? (i := 173) rfl)) rfl
set_option maxRecDepth 20000 in
theorem wq_207 : Cond.code yX2_reachOf cX2_reachOf 2 (some .long) ∈ yW := yW_of (List.mem_append_right _ (List.mem_of_getElem? (i := 174) rfl)) rfl
set_option maxRecDepth 20000 in
theorem wq_208 : Cond.methodLink RX2 32 yX2_isNumber ∈ yW := yW_of (List.mem_append_right _ (List.mem_of_getElem? (i := 175) rfl)) rfl
set_option maxRecDepth 20000 in
theorem wq_210 : Cond.instanceMethod yX2_isNumber ∈ yW := yW_of (List.mem_append_right _ (List.mem_of_getElem? (i := 177) rfl)) rfl
set_option maxRecDepth 20000 in
theorem wq_211 : Cond.code yX2_isNumber cX2_isNumber 2 (some .boolean) ∈ yW := yW_of (List.mem_append_right _ (List.mem_of_getElem? (i := 178) rfl)) rfl
set_option maxRecDepth 20000 in
theorem wq_212 : Cond.methodLink RX4 193 yX0_keep ∈ yW := yW_of (List.mem_append_right _ (List.mem_of_getElem? (i := 179) rfl)) rfl
set_option maxRecDepth 20000 in
theorem wq_213 : Cond.instanceMethod yX0_keep ∈ yW := yW_of (List.mem_append_right _ (List.mem_of_getElem? (i := 180) rfl)) rfl
set_option maxRecDepth 20000 in
theorem wq_214 : Cond.selects RX0 yX0_keep yX0_keep ∈ yW := yW_of (List.mem_append_right _ (List.mem_of_getElem? (i := 181) rfl)) rfl
set_option maxRecDepth 20000 in
theorem wq_215 : Cond.code yX0_keep cX0_keep 2 none ∈ yW := yW_of (List.mem_append_right _ (List.mem_of_getElem? (i := 182) rfl)) rfl
set_option maxRecDepth 20000 in
theorem wq_216 : Cond.methodLink RL 18 yX4_tree ∈ yW := yW_of (List.mem_append_right _ (List.mem_of_getElem? (i := 183) rfl)) rfl
set_option maxRecDepth 20000 in
theorem wq_217 : Cond.instanceMethod yX4_tree ∈ yW := yW_of (List.mem_append_right _ (List.mem_of_getElem? (i := 184) rfl)) rfl
set_option maxRecDepth 20000 in
theorem wq_218 : Cond.selects RX4 yX4_tree yX4_tree ∈ yW := yW_of (List.mem_append_right _ (List.mem_of_getElem? (i := 185) rfl)) rfl
set_option maxRecDepth 20000 in
theorem wq_219 : Cond.code yX4_tree cX4_tree 5 (some .int) ∈ yW := yW_of (List.mem_append_right _ (List.mem_of_getElem? (i := 186) rfl)) rfl
set_option maxRecDepth 20000 in
theorem wq_220 : Cond.methodLink RX4 56 yX4_isEntry ∈ yW := yW_of (List.mem_append_right _ (List.mem_of_getElem? (i := 187) rfl)) rfl
set_option maxRecDepth 20000 in
theorem wq_222 : Cond.instanceMethod yX4_isEntry ∈ yW := yW_of (List.mem_append_right _ (List.mem_of_getElem? (i := 189) rfl)) rfl
set_option maxRecDepth 20000 in
theorem wq_223 : Cond.code yX4_isEntry cX4_isEntry 3 (some .boolean) ∈ yW := yW_of (List.mem_append_right _ (List.mem_of_getElem? (i := 190) rfl)) rfl
set_option maxRecDepth 20000 in
theorem wq_224 : Cond.methodLink RX4 67 yX4_holdsKind ∈ yW := yW_of (List.mem_append_right _ (List.mem_of_getElem? (i := 191) rfl)) rfl
set_option maxRecDepth 20000 in
theorem wq_226 : Cond.instanceMethod yX4_holdsKind ∈ yW := yW_of (List.mem_append_right _ (List.mem_of_getElem? (i := 193) rfl)) rfl
set_option maxRecDepth 20000 in
theorem wq_227 : Cond.code yX4_holdsKind cX4_holdsKind 4 (some .boolean) ∈ yW := yW_of (List.mem_append_right _ (List.mem_of_getElem? (i := 194) rfl)) rfl
set_option maxRecDepth 20000 in
theorem wq_228 : Cond.methodLink RX4 176 yX2_isOfKind ∈ yW := yW_of (List.mem_append_right _ (List.mem_of_getElem? (i := 195) rfl)) rfl
set_option maxRecDepth 20000 in
theorem wq_229 : Cond.instanceMethod yX2_isOfKind ∈ yW := yW_of (List.mem_append_right _ (List.mem_of_getElem? (i := 196) rfl)) rfl
set_option maxRecDepth 20000 in
theorem wq_230 : Cond.selects RX2 yX2_isOfKind yX2_isOfKind ∈ yW := yW_of (List.mem_append_right _ (List.mem_of_getElem? (i := 197) rfl)) rfl
set_option maxRecDepth 20000 in
theorem wq_231 : Cond.code yX2_isOfKind cX2_isOfKind 3 (some .boolean) ∈ yW := yW_of (List.mem_append_right _ (List.mem_of_getElem? (i := 198) rfl)) rfl
set_option maxRecDepth 20000 in
theorem wq_232 : Cond.methodLink RL 23 yX4_commit ∈ yW := yW_of (List.mem_append_right _ (List.mem_of_getElem? (i := 199) rfl)) rfl
set_option maxRecDepth 20000 in
theorem wq_233 : Cond.instanceMethod yX4_commit ∈ yW := yW_of (List.mem_append_right _ (List.mem_of_getElem? (i := 200) rfl)) rfl
set_option maxRecDepth 20000 in
theorem wq_234 : Cond.selects RX4 yX4_commit yX4_commit ∈ yW := yW_of (List.mem_append_right _ (List.mem_of_getElem? (i := 201) rfl)) rfl
set_option maxRecDepth 20000 in
theorem wq_235 : Cond.code yX4_commit cX4_commit 8 (some .int) ∈ yW := yW_of (List.mem_append_right _ (List.mem_of_getElem? (i := 202) rfl)) rfl
set_option maxRecDepth 20000 in
theorem wq_236 : Cond.methodLink RX4 60 yX4_isOwnReference ∈ yW := yW_of (List.mem_append_right _ (List.mem_of_getElem? (i := 203) rfl)) rfl
set_option maxRecDepth 20000 in
theorem wq_237 : Cond.static yX4_isOwnReference ∈ yW := yW_of (List.mem_append_right _ (List.mem_of_getElem? (i := 204) rfl)) rfl
set_option maxRecDepth 20000 in
theorem wq_238 : Cond.code yX4_isOwnReference cX4_isOwnReference 1 (some .boolean) ∈ yW := yW_of (List.mem_append_right _ (List.mem_of_getElem? (i := 205) rfl)) rfl
set_option maxRecDepth 20000 in
theorem wq_239 : Cond.methodLink RX4 63 yX0_valueOf ∈ yW := yW_of (List.mem_append_right _ (List.mem_of_getElem? (i := 206) rfl)) rfl
set_option maxRecDepth 20000 in
theorem wq_240 : Cond.instanceMethod yX0_valueOf ∈ yW := yW_of (List.mem_append_right _ (List.mem_of_getElem? (i := 207) rfl)) rfl
set_option maxRecDepth 20000 in
theorem wq_241 : Cond.selects RX0 yX0_valueOf yX0_valueOf ∈ yW := yW_of (List.mem_append_right _ (List.mem_of_getElem? (i := 208) rfl)) rfl
set_option maxRecDepth 20000 in
theorem wq_242 : Cond.code yX0_valueOf cX0_valueOf 2 (some .int) ∈ yW := yW_of (List.mem_append_right _ (List.mem_of_getElem? (i := 209) rfl)) rfl
set_option maxRecDepth 20000 in
theorem wq_243 : Cond.methodLink RX4 71 yX4_isCommitOrAbsent ∈ yW := yW_of (List.mem_append_right _ (List.mem_of_getElem? (i := 210) rfl)) rfl
set_option maxRecDepth 20000 in
theorem wq_245 : Cond.instanceMethod yX4_isCommitOrAbsent ∈ yW := yW_of (List.mem_append_right _ (List.mem_of_getElem? (i := 212) rfl)) rfl
set_option maxRecDepth 20000 in
theorem wq_246 : Cond.code yX4_isCommitOrAbsent cX4_isCommitOrAbsent 3 (some .boolean) ∈ yW := yW_of (List.mem_append_right _ (List.mem_of_getElem? (i := 213) rfl)) rfl
set_option maxRecDepth 20000 in
theorem wq_247 : Cond.methodLink RX4 74 yX4_aimAtOne ∈ yW := yW_of (List.mem_append_right _ (List.mem_of_getElem? (i := 214) rfl)) rfl
set_option maxRecDepth 20000 in
theorem wq_249 : Cond.instanceMethod yX4_aimAtOne ∈ yW := yW_of (List.mem_append_right _ (List.mem_of_getElem? (i := 216) rfl)) rfl
set_option maxRecDepth 20000 in
theorem wq_250 : Cond.code yX4_aimAtOne cX4_aimAtOne 3 none ∈ yW := yW_of (List.mem_append_right _ (List.mem_of_getElem? (i := 217) rfl)) rfl
set_option maxRecDepth 20000 in
theorem wq_251 : Cond.methodLink RX4 196 yX4_clearTargets ∈ yW := yW_of (List.mem_append_right _ (List.mem_of_getElem? (i := 218) rfl)) rfl
set_option maxRecDepth 20000 in
theorem wq_253 : Cond.instanceMethod yX4_clearTargets ∈ yW := yW_of (List.mem_append_right _ (List.mem_of_getElem? (i := 220) rfl)) rfl
set_option maxRecDepth 20000 in
theorem wq_254 : Cond.code yX4_clearTargets cX4_clearTargets 2 none ∈ yW := yW_of (List.mem_append_right _ (List.mem_of_getElem? (i := 221) rfl)) rfl
set_option maxRecDepth 20000 in
theorem wq_255 : Cond.methodLink RX4 78 yX0_transact ∈ yW := yW_of (List.mem_append_right _ (List.mem_of_getElem? (i := 222) rfl)) rfl
set_option maxRecDepth 20000 in
theorem wq_256 : Cond.instanceMethod yX0_transact ∈ yW := yW_of (List.mem_append_right _ (List.mem_of_getElem? (i := 223) rfl)) rfl
set_option maxRecDepth 20000 in
theorem wq_257 : Cond.selects RX0 yX0_transact yX0_transact ∈ yW := yW_of (List.mem_append_right _ (List.mem_of_getElem? (i := 224) rfl)) rfl
set_option maxRecDepth 20000 in
theorem wq_258 : Cond.code yX0_transact cX0_transact 3 (some .boolean) ∈ yW := yW_of (List.mem_append_right _ (List.mem_of_getElem? (i := 225) rfl)) rfl
set_option maxRecDepth 20000 in
theorem wq_259 : Cond.methodLink RX0 48 yX0_write ∈ yW := yW_of (List.mem_append_right _ (List.mem_of_getElem? (i := 226) rfl)) rfl
set_option maxRecDepth 20000 in
theorem wq_260 : Cond.methodLink RX0 60 yX0_carryOutLog ∈ yW := yW_of (List.mem_append_right _ (List.mem_of_getElem? (i := 227) rfl)) rfl
set_option maxRecDepth 20000 in
theorem wq_262 : Cond.instanceMethod yX0_carryOutLog ∈ yW := yW_of (List.mem_append_right _ (List.mem_of_getElem? (i := 229) rfl)) rfl
set_option maxRecDepth 20000 in
theorem wq_263 : Cond.code yX0_carryOutLog cX0_carryOutLog 2 (some .boolean) ∈ yW := yW_of (List.mem_append_right _ (List.mem_of_getElem? (i := 230) rfl)) rfl
set_option maxRecDepth 20000 in
theorem wq_264 : Cond.methodLink RX0 63 yX0_emptyLog ∈ yW := yW_of (List.mem_append_right _ (List.mem_of_getElem? (i := 231) rfl)) rfl
set_option maxRecDepth 20000 in
theorem wq_266 : Cond.instanceMethod yX0_emptyLog ∈ yW := yW_of (List.mem_append_right _ (List.mem_of_getElem? (i := 233) rfl)) rfl
set_option maxRecDepth 20000 in
theorem wq_267 : Cond.code yX0_emptyLog cX0_emptyLog 2 (some .boolean) ∈ yW := yW_of (List.mem_append_right _ (List.mem_of_getElem? (i := 234) rfl)) rfl
set_option maxRecDepth 20000 in
theorem wq_268 : Cond.methodLink RL 28 yX4_point ∈ yW := yW_of (List.mem_append_right _ (List.mem_of_getElem? (i := 235) rfl)) rfl
set_option maxRecDepth 20000 in
theorem wq_269 : Cond.instanceMethod yX4_point ∈ yW := yW_of (List.mem_append_right _ (List.mem_of_getElem? (i := 236) rfl)) rfl
set_option maxRecDepth 20000 in
theorem wq_270 : Cond.selects RX4 yX4_point yX4_point ∈ yW := yW_of (List.mem_append_right _ (List.mem_of_getElem? (i := 237) rfl)) rfl
set_option maxRecDepth 20000 in
theorem wq_271 : Cond.code yX4_point cX4_point 5 (some .int) ∈ yW := yW_of (List.mem_append_right _ (List.mem_of_getElem? (i := 238) rfl)) rfl
set_option maxRecDepth 20000 in
theorem wq_272 : Cond.methodLink RL 32 yX4_fetch ∈ yW := yW_of (List.mem_append_right _ (List.mem_of_getElem? (i := 239) rfl)) rfl
set_option maxRecDepth 20000 in
theorem wq_273 : Cond.instanceMethod yX4_fetch ∈ yW := yW_of (List.mem_append_right _ (List.mem_of_getElem? (i := 240) rfl)) rfl
set_option maxRecDepth 20000 in
theorem wq_274 : Cond.selects RX4 yX4_fetch yX4_fetch ∈ yW := yW_of (List.mem_append_right _ (List.mem_of_getElem? (i := 241) rfl)) rfl
set_option maxRecDepth 20000 in
theorem wq_275 : Cond.code yX4_fetch cX4_fetch 11 (some .int) ∈ yW := yW_of (List.mem_append_right _ (List.mem_of_getElem? (i := 242) rfl)) rfl
set_option maxRecDepth 20000 in
theorem wq_276 : Cond.methodLink RX4 82 yX4_isClient ∈ yW := yW_of (List.mem_append_right _ (List.mem_of_getElem? (i := 243) rfl)) rfl
set_option maxRecDepth 20000 in
theorem wq_277 : Cond.static yX4_isClient ∈ yW := yW_of (List.mem_append_right _ (List.mem_of_getElem? (i := 244) rfl)) rfl
set_option maxRecDepth 20000 in
theorem wq_278 : Cond.code yX4_isClient cX4_isClient 1 (some .boolean) ∈ yW := yW_of (List.mem_append_right _ (List.mem_of_getElem? (i := 245) rfl)) rfl
set_option maxRecDepth 20000 in
theorem wq_279 : Cond.methodLink RX4 85 yX4_isSet ∈ yW := yW_of (List.mem_append_right _ (List.mem_of_getElem? (i := 246) rfl)) rfl
set_option maxRecDepth 20000 in
theorem wq_280 : Cond.static yX4_isSet ∈ yW := yW_of (List.mem_append_right _ (List.mem_of_getElem? (i := 247) rfl)) rfl
set_option maxRecDepth 20000 in
theorem wq_281 : Cond.code yX4_isSet cX4_isSet 1 (some .boolean) ∈ yW := yW_of (List.mem_append_right _ (List.mem_of_getElem? (i := 248) rfl)) rfl
set_option maxRecDepth 20000 in
theorem wq_282 : Cond.methodLink RX4 88 yX0_commitsOf ∈ yW := yW_of (List.mem_append_right _ (List.mem_of_getElem? (i := 249) rfl)) rfl
set_option maxRecDepth 20000 in
theorem wq_283 : Cond.instanceMethod yX0_commitsOf ∈ yW := yW_of (List.mem_append_right _ (List.mem_of_getElem? (i := 250) rfl)) rfl
set_option maxRecDepth 20000 in
theorem wq_284 : Cond.selects RX0 yX0_commitsOf yX0_commitsOf ∈ yW := yW_of (List.mem_append_right _ (List.mem_of_getElem? (i := 251) rfl)) rfl
set_option maxRecDepth 20000 in
theorem wq_285 : Cond.code yX0_commitsOf cX0_commitsOf 5 (some .long) ∈ yW := yW_of (List.mem_append_right _ (List.mem_of_getElem? (i := 252) rfl)) rfl
set_option maxRecDepth 20000 in
theorem wq_287 : Cond.static yX4_isChosen ∈ yW := yW_of (List.mem_append_right _ (List.mem_of_getElem? (i := 254) rfl)) rfl
set_option maxRecDepth 20000 in
theorem wq_288 : Cond.code yX4_isChosen cX4_isChosen 2 (some .boolean) ∈ yW := yW_of (List.mem_append_right _ (List.mem_of_getElem? (i := 255) rfl)) rfl
set_option maxRecDepth 20000 in
theorem wq_289 : Cond.constantLong RX4 96 (-1) ∈ yW := yW_of (List.mem_append_right _ (List.mem_of_getElem? (i := 256) rfl)) rfl
set_option maxRecDepth 20000 in
theorem wq_290 : Cond.methodLink RX4 98 yX2_reachOfAll ∈ yW := yW_of (List.mem_append_right _ (List.mem_of_getElem? (i := 257) rfl)) rfl
set_option maxRecDepth 20000 in
theorem wq_291 : Cond.instanceMethod yX2_reachOfAll ∈ yW := yW_of (List.mem_append_right _ (List.mem_of_getElem? (i := 258) rfl)) rfl
set_option maxRecDepth 20000 in
theorem wq_292 : Cond.selects RX2 yX2_reachOfAll yX2_reachOfAll ∈ yW := yW_of (List.mem_append_right _ (List.mem_of_getElem? (i := 259) rfl)) rfl
set_option maxRecDepth 20000 in
theorem wq_293 : Cond.code yX2_reachOfAll cX2_reachOfAll 6 (some .long) ∈ yW := yW_of (List.mem_append_right _ (List.mem_of_getElem? (i := 260) rfl)) rfl
set_option maxRecDepth 20000 in
theorem wq_295 : Cond.methodLink RX4 102 yX2_allOfKind ∈ yW := yW_of (List.mem_append_right _ (List.mem_of_getElem? (i := 262) rfl)) rfl
set_option maxRecDepth 20000 in
theorem wq_296 : Cond.instanceMethod yX2_allOfKind ∈ yW := yW_of (List.mem_append_right _ (List.mem_of_getElem? (i := 263) rfl)) rfl
set_option maxRecDepth 20000 in
theorem wq_297 : Cond.selects RX2 yX2_allOfKind yX2_allOfKind ∈ yW := yW_of (List.mem_append_right _ (List.mem_of_getElem? (i := 264) rfl)) rfl
set_option maxRecDepth 20000 in
theorem wq_298 : Cond.code yX2_allOfKind cX2_allOfKind 5 (some .long) ∈ yW := yW_of (List.mem_append_right _ (List.mem_of_getElem? (i := 265) rfl)) rfl
set_option maxRecDepth 20000 in
theorem wq_299 : Cond.methodLink RX4 105 yX3_run ∈ yW := yW_of (List.mem_append_right _ (List.mem_of_getElem? (i := 266) rfl)) rfl
set_option maxRecDepth 20000 in
theorem wq_300 : Cond.instanceMethod yX3_run ∈ yW := yW_of (List.mem_append_right _ (List.mem_of_getElem? (i := 267) rfl)) rfl
set_option maxRecDepth 20000 in
theorem wq_301 : Cond.selects RX3 yX3_run yX3_run ∈ yW := yW_of (List.mem_append_right _ (List.mem_of_getElem? (i := 268) rfl)) rfl
set_option maxRecDepth 20000 in
theorem wq_302 : Cond.code yX3_run cX3_run 14 (some .long) ∈ yW := yW_of (List.mem_append_right _ (List.mem_of_getElem? (i := 269) rfl)) rfl
set_option maxRecDepth 20000 in
theorem wq_303 : Cond.methodLink RX3 21 yX2_eachReachesOne ∈ yW := yW_of (List.mem_append_right _ (List.mem_of_getElem? (i := 270) rfl)) rfl
set_option maxRecDepth 20000 in
theorem wq_304 : Cond.instanceMethod yX2_eachReachesOne ∈ yW := yW_of (List.mem_append_right _ (List.mem_of_getElem? (i := 271) rfl)) rfl
set_option maxRecDepth 20000 in
theorem wq_305 : Cond.selects RX2 yX2_eachReachesOne yX2_eachReachesOne ∈ yW := yW_of (List.mem_append_right _ (List.mem_of_getElem? (i := 272) rfl)) rfl
set_option maxRecDepth 20000 in
theorem wq_306 : Cond.code yX2_eachReachesOne cX2_eachReachesOne 6 (some .boolean) ∈ yW := yW_of (List.mem_append_right _ (List.mem_of_getElem? (i := 273) rfl)) rfl
set_option maxRecDepth 20000 in
theorem wq_307 : Cond.methodLink RX3 27 yX3_highest ∈ yW := yW_of (List.mem_append_right _ (List.mem_of_getElem? (i := 274) rfl)) rfl
set_option maxRecDepth 20000 in
theorem wq_308 : Cond.static yX3_highest ∈ yW := yW_of (List.mem_append_right _ (List.mem_of_getElem? (i := 275) rfl)) rfl
set_option maxRecDepth 20000 in
theorem wq_309 : Cond.code yX3_highest cX3_highest 6 (some .long) ∈ yW := yW_of (List.mem_append_right _ (List.mem_of_getElem? (i := 276) rfl)) rfl
set_option maxRecDepth 20000 in
theorem wq_311 : Cond.methodLink RX3 31 yJL_bitCount ∈ yW := yW_of (List.mem_append_right _ (List.mem_of_getElem? (i := 278) rfl)) rfl
set_option maxRecDepth 20000 in
theorem wq_312 : Cond.static yJL_bitCount ∈ yW := yW_of (List.mem_append_right _ (List.mem_of_getElem? (i := 279) rfl)) rfl
set_option maxRecDepth 20000 in
theorem wq_313 : Cond.code yJL_bitCount cJL_bitCount 2 (some .int) ∈ yW := yW_of (List.mem_append_right _ (List.mem_of_getElem? (i := 280) rfl)) rfl
set_option maxRecDepth 20000 in
theorem wq_314 : Cond.constantLong RJL 314 6148914691236517205 ∈ yW := yW_of (List.mem_append_right _ (List.mem_of_getElem? (i := 281) rfl)) rfl
set_option maxRecDepth 20000 in
theorem wq_315 : Cond.constantLong RJL 316 3689348814741910323 ∈ yW := yW_of (List.mem_append_right _ (List.mem_of_getElem? (i := 282) rfl)) rfl
set_option maxRecDepth 20000 in
theorem wq_316 : Cond.constantLong RJL 318 1085102592571150095 ∈ yW := yW_of (List.mem_append_right _ (List.mem_of_getElem? (i := 283) rfl)) rfl
set_option maxRecDepth 20000 in
theorem wq_317 : Cond.methodLink RX3 37 yX2_reachOfAll ∈ yW := yW_of (List.mem_append_right _ (List.mem_of_getElem? (i := 284) rfl)) rfl
set_option maxRecDepth 20000 in
theorem wq_318 : Cond.constantLong RX3 40 (-1) ∈ yW := yW_of (List.mem_append_right _ (List.mem_of_getElem? (i := 285) rfl)) rfl
set_option maxRecDepth 20000 in
theorem wq_319 : Cond.methodLink RX4 109 yX1_fill ∈ yW := yW_of (List.mem_append_right _ (List.mem_of_getElem? (i := 286) rfl)) rfl
set_option maxRecDepth 20000 in
theorem wq_320 : Cond.instanceMethod yX1_fill ∈ yW := yW_of (List.mem_append_right _ (List.mem_of_getElem? (i := 287) rfl)) rfl
set_option maxRecDepth 20000 in
theorem wq_321 : Cond.selects RX1 yX1_fill yX1_fill ∈ yW := yW_of (List.mem_append_right _ (List.mem_of_getElem? (i := 288) rfl)) rfl
set_option maxRecDepth 20000 in
theorem wq_322 : Cond.code yX1_fill cX1_fill 4 none ∈ yW := yW_of (List.mem_append_right _ (List.mem_of_getElem? (i := 289) rfl)) rfl
set_option maxRecDepth 20000 in
theorem wq_323 : Cond.methodLink RX1 32 yX1_placeKind ∈ yW := yW_of (List.mem_append_right _ (List.mem_of_getElem? (i := 290) rfl)) rfl
set_option maxRecDepth 20000 in
theorem wq_325 : Cond.instanceMethod yX1_placeKind ∈ yW := yW_of (List.mem_append_right _ (List.mem_of_getElem? (i := 292) rfl)) rfl
set_option maxRecDepth 20000 in
theorem wq_326 : Cond.code yX1_placeKind cX1_placeKind 5 none ∈ yW := yW_of (List.mem_append_right _ (List.mem_of_getElem? (i := 293) rfl)) rfl
set_option maxRecDepth 20000 in
theorem wq_328 : Cond.methodLink RX1 44 yX2_isOfKind ∈ yW := yW_of (List.mem_append_right _ (List.mem_of_getElem? (i := 295) rfl)) rfl
set_option maxRecDepth 20000 in
theorem wq_329 : Cond.methodLink RX1 50 yX1_chooseBase ∈ yW := yW_of (List.mem_append_right _ (List.mem_of_getElem? (i := 296) rfl)) rfl
set_option maxRecDepth 20000 in
theorem wq_331 : Cond.instanceMethod yX1_chooseBase ∈ yW := yW_of (List.mem_append_right _ (List.mem_of_getElem? (i := 298) rfl)) rfl
set_option maxRecDepth 20000 in
theorem wq_332 : Cond.code yX1_chooseBase cX1_chooseBase 7 (some .int) ∈ yW := yW_of (List.mem_append_right _ (List.mem_of_getElem? (i := 299) rfl)) rfl
set_option maxRecDepth 20000 in
theorem wq_333 : Cond.methodLink RX1 58 yX2_contentOf ∈ yW := yW_of (List.mem_append_right _ (List.mem_of_getElem? (i := 300) rfl)) rfl
set_option maxRecDepth 20000 in
theorem wq_334 : Cond.instanceMethod yX2_contentOf ∈ yW := yW_of (List.mem_append_right _ (List.mem_of_getElem? (i := 301) rfl)) rfl
set_option maxRecDepth 20000 in
theorem wq_335 : Cond.selects RX2 yX2_contentOf yX2_contentOf ∈ yW := yW_of (List.mem_append_right _ (List.mem_of_getElem? (i := 302) rfl)) rfl
set_option maxRecDepth 20000 in
theorem wq_336 : Cond.code yX2_contentOf cX2_contentOf 2 (some .int) ∈ yW := yW_of (List.mem_append_right _ (List.mem_of_getElem? (i := 303) rfl)) rfl
set_option maxRecDepth 20000 in
theorem wq_337 : Cond.methodLink RX1 61 yX1_differingDigits ∈ yW := yW_of (List.mem_append_right _ (List.mem_of_getElem? (i := 304) rfl)) rfl
set_option maxRecDepth 20000 in
theorem wq_338 : Cond.static yX1_differingDigits ∈ yW := yW_of (List.mem_append_right _ (List.mem_of_getElem? (i := 305) rfl)) rfl
set_option maxRecDepth 20000 in
theorem wq_339 : Cond.code yX1_differingDigits cX1_differingDigits 5 (some .int) ∈ yW := yW_of (List.mem_append_right _ (List.mem_of_getElem? (i := 306) rfl)) rfl
set_option maxRecDepth 20000 in
theorem wq_340 : Cond.methodLink RX1 54 yX2_partsOf ∈ yW := yW_of (List.mem_append_right _ (List.mem_of_getElem? (i := 307) rfl)) rfl
set_option maxRecDepth 20000 in
theorem wq_341 : Cond.instanceMethod yX2_partsOf ∈ yW := yW_of (List.mem_append_right _ (List.mem_of_getElem? (i := 308) rfl)) rfl
set_option maxRecDepth 20000 in
theorem wq_342 : Cond.selects RX2 yX2_partsOf yX2_partsOf ∈ yW := yW_of (List.mem_append_right _ (List.mem_of_getElem? (i := 309) rfl)) rfl
set_option maxRecDepth 20000 in
theorem wq_343 : Cond.code yX2_partsOf cX2_partsOf 2 (some .int) ∈ yW := yW_of (List.mem_append_right _ (List.mem_of_getElem? (i := 310) rfl)) rfl
set_option maxRecDepth 20000 in
theorem wq_344 : Cond.methodLink RX4 113 yX1_memberSet ∈ yW := yW_of (List.mem_append_right _ (List.mem_of_getElem? (i := 311) rfl)) rfl
set_option maxRecDepth 20000 in
theorem wq_345 : Cond.instanceMethod yX1_memberSet ∈ yW := yW_of (List.mem_append_right _ (List.mem_of_getElem? (i := 312) rfl)) rfl
set_option maxRecDepth 20000 in
theorem wq_346 : Cond.selects RX1 yX1_memberSet yX1_memberSet ∈ yW := yW_of (List.mem_append_right _ (List.mem_of_getElem? (i := 313) rfl)) rfl
set_option maxRecDepth 20000 in
theorem wq_347 : Cond.code yX1_memberSet cX1_memberSet 1 (some .long) ∈ yW := yW_of (List.mem_append_right _ (List.mem_of_getElem? (i := 314) rfl)) rfl
set_option maxRecDepth 20000 in
theorem wq_348 : Cond.methodLink RX4 116 yX0_writeMissing ∈ yW := yW_of (List.mem_append_right _ (List.mem_of_getElem? (i := 315) rfl)) rfl
set_option maxRecDepth 20000 in
theorem wq_349 : Cond.instanceMethod yX0_writeMissing ∈ yW := yW_of (List.mem_append_right _ (List.mem_of_getElem? (i := 316) rfl)) rfl
set_option maxRecDepth 20000 in
theorem wq_350 : Cond.selects RX0 yX0_writeMissing yX0_writeMissing ∈ yW := yW_of (List.mem_append_right _ (List.mem_of_getElem? (i := 317) rfl)) rfl
set_option maxRecDepth 20000 in
theorem wq_351 : Cond.code yX0_writeMissing cX0_writeMissing 6 (some .boolean) ∈ yW := yW_of (List.mem_append_right _ (List.mem_of_getElem? (i := 318) rfl)) rfl
set_option maxRecDepth 20000 in
theorem wq_352 : Cond.constantLong RX0 42 (-1) ∈ yW := yW_of (List.mem_append_right _ (List.mem_of_getElem? (i := 319) rfl)) rfl
set_option maxRecDepth 20000 in
theorem wq_354 : Cond.methodLink RX0 52 yX0_keep ∈ yW := yW_of (List.mem_append_right _ (List.mem_of_getElem? (i := 321) rfl)) rfl
set_option maxRecDepth 20000 in
theorem wq_355 : Cond.methodLink RX4 120 yX4_aimAtValues ∈ yW := yW_of (List.mem_append_right _ (List.mem_of_getElem? (i := 322) rfl)) rfl
set_option maxRecDepth 20000 in
theorem wq_357 : Cond.instanceMethod yX4_aimAtValues ∈ yW := yW_of (List.mem_append_right _ (List.mem_of_getElem? (i := 324) rfl)) rfl
set_option maxRecDepth 20000 in
theorem wq_358 : Cond.code yX4_aimAtValues cX4_aimAtValues 5 none ∈ yW := yW_of (List.mem_append_right _ (List.mem_of_getElem? (i := 325) rfl)) rfl
set_option maxRecDepth 20000 in
theorem wq_359 : Cond.methodLink RX4 199 yX4_isChosen ∈ yW := yW_of (List.mem_append_right _ (List.mem_of_getElem? (i := 326) rfl)) rfl
set_option maxRecDepth 20000 in
theorem wq_360 : Cond.methodLink RX4 124 yX1_length ∈ yW := yW_of (List.mem_append_right _ (List.mem_of_getElem? (i := 327) rfl)) rfl
set_option maxRecDepth 20000 in
theorem wq_361 : Cond.instanceMethod yX1_length ∈ yW := yW_of (List.mem_append_right _ (List.mem_of_getElem? (i := 328) rfl)) rfl
set_option maxRecDepth 20000 in
theorem wq_362 : Cond.selects RX1 yX1_length yX1_length ∈ yW := yW_of (List.mem_append_right _ (List.mem_of_getElem? (i := 329) rfl)) rfl
set_option maxRecDepth 20000 in
theorem wq_363 : Cond.code yX1_length cX1_length 1 (some .int) ∈ yW := yW_of (List.mem_append_right _ (List.mem_of_getElem? (i := 330) rfl)) rfl
set_option maxRecDepth 20000 in
theorem wq_364 : Cond.methodLink RL 36 yX4_push ∈ yW := yW_of (List.mem_append_right _ (List.mem_of_getElem? (i := 331) rfl)) rfl
set_option maxRecDepth 20000 in
theorem wq_365 : Cond.instanceMethod yX4_push ∈ yW := yW_of (List.mem_append_right _ (List.mem_of_getElem? (i := 332) rfl)) rfl
set_option maxRecDepth 20000 in
theorem wq_366 : Cond.selects RX4 yX4_push yX4_push ∈ yW := yW_of (List.mem_append_right _ (List.mem_of_getElem? (i := 333) rfl)) rfl
set_option maxRecDepth 20000 in
theorem wq_367 : Cond.code yX4_push cX4_push 7 (some .int) ∈ yW := yW_of (List.mem_append_right _ (List.mem_of_getElem? (i := 334) rfl)) rfl
set_option maxRecDepth 20000 in
theorem wq_368 : Cond.methodLink RX4 128 yX0_hasValues ∈ yW := yW_of (List.mem_append_right _ (List.mem_of_getElem? (i := 335) rfl)) rfl
set_option maxRecDepth 20000 in
theorem wq_369 : Cond.instanceMethod yX0_hasValues ∈ yW := yW_of (List.mem_append_right _ (List.mem_of_getElem? (i := 336) rfl)) rfl
set_option maxRecDepth 20000 in
theorem wq_370 : Cond.selects RX0 yX0_hasValues yX0_hasValues ∈ yW := yW_of (List.mem_append_right _ (List.mem_of_getElem? (i := 337) rfl)) rfl
set_option maxRecDepth 20000 in
theorem wq_371 : Cond.code yX0_hasValues cX0_hasValues 3 (some .boolean) ∈ yW := yW_of (List.mem_append_right _ (List.mem_of_getElem? (i := 338) rfl)) rfl
set_option maxRecDepth 20000 in
theorem wq_372 : Cond.methodLink RX4 131 yX4_judge ∈ yW := yW_of (List.mem_append_right _ (List.mem_of_getElem? (i := 339) rfl)) rfl
set_option maxRecDepth 20000 in
theorem wq_374 : Cond.instanceMethod yX4_judge ∈ yW := yW_of (List.mem_append_right _ (List.mem_of_getElem? (i := 341) rfl)) rfl
set_option maxRecDepth 20000 in
theorem wq_375 : Cond.code yX4_judge cX4_judge 6 (some .boolean) ∈ yW := yW_of (List.mem_append_right _ (List.mem_of_getElem? (i := 342) rfl)) rfl
set_option maxRecDepth 20000 in
theorem wq_376 : Cond.methodLink RX4 202 yX4_verdictOn ∈ yW := yW_of (List.mem_append_right _ (List.mem_of_getElem? (i := 343) rfl)) rfl
set_option maxRecDepth 20000 in
theorem wq_378 : Cond.instanceMethod yX4_verdictOn ∈ yW := yW_of (List.mem_append_right _ (List.mem_of_getElem? (i := 345) rfl)) rfl
set_option maxRecDepth 20000 in
theorem wq_379 : Cond.code yX4_verdictOn cX4_verdictOn 5 (some .int) ∈ yW := yW_of (List.mem_append_right _ (List.mem_of_getElem? (i := 346) rfl)) rfl
set_option maxRecDepth 20000 in
theorem wq_380 : Cond.methodLink RX4 206 yX2_reachOf ∈ yW := yW_of (List.mem_append_right _ (List.mem_of_getElem? (i := 347) rfl)) rfl
set_option maxRecDepth 20000 in
theorem wq_381 : Cond.methodLink RX4 135 yX4_carryOutPush ∈ yW := yW_of (List.mem_append_right _ (List.mem_of_getElem? (i := 348) rfl)) rfl
set_option maxRecDepth 20000 in
theorem wq_383 : Cond.instanceMethod yX4_carryOutPush ∈ yW := yW_of (List.mem_append_right _ (List.mem_of_getElem? (i := 350) rfl)) rfl
set_option maxRecDepth 20000 in
theorem wq_384 : Cond.code yX4_carryOutPush cX4_carryOutPush 4 (some .boolean) ∈ yW := yW_of (List.mem_append_right _ (List.mem_of_getElem? (i := 351) rfl)) rfl
set_option maxRecDepth 20000 in
theorem wq_385 : Cond.methodLink RL 40 yX4_arm ∈ yW := yW_of (List.mem_append_right _ (List.mem_of_getElem? (i := 352) rfl)) rfl
set_option maxRecDepth 20000 in
theorem wq_386 : Cond.instanceMethod yX4_arm ∈ yW := yW_of (List.mem_append_right _ (List.mem_of_getElem? (i := 353) rfl)) rfl
set_option maxRecDepth 20000 in
theorem wq_387 : Cond.selects RX4 yX4_arm yX4_arm ∈ yW := yW_of (List.mem_append_right _ (List.mem_of_getElem? (i := 354) rfl)) rfl
set_option maxRecDepth 20000 in
theorem wq_388 : Cond.code yX4_arm cX4_arm 3 (some .boolean) ∈ yW := yW_of (List.mem_append_right _ (List.mem_of_getElem? (i := 355) rfl)) rfl
set_option maxRecDepth 20000 in
theorem wq_389 : Cond.methodLink RX4 138 yX0_armWith ∈ yW := yW_of (List.mem_append_right _ (List.mem_of_getElem? (i := 356) rfl)) rfl
set_option maxRecDepth 20000 in
theorem wq_390 : Cond.instanceMethod yX0_armWith ∈ yW := yW_of (List.mem_append_right _ (List.mem_of_getElem? (i := 357) rfl)) rfl
set_option maxRecDepth 20000 in
theorem wq_391 : Cond.selects RX0 yX0_armWith yX0_armWith ∈ yW := yW_of (List.mem_append_right _ (List.mem_of_getElem? (i := 358) rfl)) rfl
set_option maxRecDepth 20000 in
theorem wq_392 : Cond.code yX0_armWith cX0_armWith 2 none ∈ yW := yW_of (List.mem_append_right _ (List.mem_of_getElem? (i := 359) rfl)) rfl
set_option maxRecDepth 20000 in
theorem wq_393 : Cond.methodLink RL 45 yX4_recover ∈ yW := yW_of (List.mem_append_right _ (List.mem_of_getElem? (i := 360) rfl)) rfl
set_option maxRecDepth 20000 in
theorem wq_394 : Cond.instanceMethod yX4_recover ∈ yW := yW_of (List.mem_append_right _ (List.mem_of_getElem? (i := 361) rfl)) rfl
set_option maxRecDepth 20000 in
theorem wq_395 : Cond.selects RX4 yX4_recover yX4_recover ∈ yW := yW_of (List.mem_append_right _ (List.mem_of_getElem? (i := 362) rfl)) rfl
set_option maxRecDepth 20000 in
theorem wq_396 : Cond.code yX4_recover cX4_recover 2 (some .int) ∈ yW := yW_of (List.mem_append_right _ (List.mem_of_getElem? (i := 363) rfl)) rfl
set_option maxRecDepth 20000 in
theorem wq_397 : Cond.methodLink RX4 142 yX0_restore ∈ yW := yW_of (List.mem_append_right _ (List.mem_of_getElem? (i := 364) rfl)) rfl
set_option maxRecDepth 20000 in
theorem wq_398 : Cond.instanceMethod yX0_restore ∈ yW := yW_of (List.mem_append_right _ (List.mem_of_getElem? (i := 365) rfl)) rfl
set_option maxRecDepth 20000 in
theorem wq_399 : Cond.selects RX0 yX0_restore yX0_restore ∈ yW := yW_of (List.mem_append_right _ (List.mem_of_getElem? (i := 366) rfl)) rfl
set_option maxRecDepth 20000 in
theorem wq_400 : Cond.code yX0_restore cX0_restore 3 (some .int) ∈ yW := yW_of (List.mem_append_right _ (List.mem_of_getElem? (i := 367) rfl)) rfl
set_option maxRecDepth 20000 in
theorem wq_401 : Cond.methodLink RL 50 yX4_collect ∈ yW := yW_of (List.mem_append_right _ (List.mem_of_getElem? (i := 368) rfl)) rfl
set_option maxRecDepth 20000 in
theorem wq_402 : Cond.instanceMethod yX4_collect ∈ yW := yW_of (List.mem_append_right _ (List.mem_of_getElem? (i := 369) rfl)) rfl
set_option maxRecDepth 20000 in
theorem wq_403 : Cond.selects RX4 yX4_collect yX4_collect ∈ yW := yW_of (List.mem_append_right _ (List.mem_of_getElem? (i := 370) rfl)) rfl
set_option maxRecDepth 20000 in
theorem wq_404 : Cond.code yX4_collect cX4_collect 3 (some .int) ∈ yW := yW_of (List.mem_append_right _ (List.mem_of_getElem? (i := 371) rfl)) rfl
set_option maxRecDepth 20000 in
theorem wq_405 : Cond.methodLink RX4 145 yX0_keepOnly ∈ yW := yW_of (List.mem_append_right _ (List.mem_of_getElem? (i := 372) rfl)) rfl
set_option maxRecDepth 20000 in
theorem wq_406 : Cond.instanceMethod yX0_keepOnly ∈ yW := yW_of (List.mem_append_right _ (List.mem_of_getElem? (i := 373) rfl)) rfl
set_option maxRecDepth 20000 in
theorem wq_407 : Cond.selects RX0 yX0_keepOnly yX0_keepOnly ∈ yW := yW_of (List.mem_append_right _ (List.mem_of_getElem? (i := 374) rfl)) rfl
set_option maxRecDepth 20000 in
theorem wq_408 : Cond.code yX0_keepOnly cX0_keepOnly 4 (some .int) ∈ yW := yW_of (List.mem_append_right _ (List.mem_of_getElem? (i := 375) rfl)) rfl
set_option maxRecDepth 20000 in
theorem wq_409 : Cond.methodLink RX0 36 yJL_bitCount ∈ yW := yW_of (List.mem_append_right _ (List.mem_of_getElem? (i := 376) rfl)) rfl
set_option maxRecDepth 20000 in
theorem wq_410 : Cond.methodLink RL 54 yX4_up ∈ yW := yW_of (List.mem_append_right _ (List.mem_of_getElem? (i := 377) rfl)) rfl
set_option maxRecDepth 20000 in
theorem wq_411 : Cond.instanceMethod yX4_up ∈ yW := yW_of (List.mem_append_right _ (List.mem_of_getElem? (i := 378) rfl)) rfl
set_option maxRecDepth 20000 in
theorem wq_412 : Cond.selects RX4 yX4_up yX4_up ∈ yW := yW_of (List.mem_append_right _ (List.mem_of_getElem? (i := 379) rfl)) rfl
set_option maxRecDepth 20000 in
theorem wq_413 : Cond.code yX4_up cX4_up 2 (some .boolean) ∈ yW := yW_of (List.mem_append_right _ (List.mem_of_getElem? (i := 380) rfl)) rfl
set_option maxRecDepth 20000 in
theorem wq_414 : Cond.methodLink RL 59 yX4_reference ∈ yW := yW_of (List.mem_append_right _ (List.mem_of_getElem? (i := 381) rfl)) rfl
set_option maxRecDepth 20000 in
theorem wq_415 : Cond.instanceMethod yX4_reference ∈ yW := yW_of (List.mem_append_right _ (List.mem_of_getElem? (i := 382) rfl)) rfl
set_option maxRecDepth 20000 in
theorem wq_416 : Cond.selects RX4 yX4_reference yX4_reference ∈ yW := yW_of (List.mem_append_right _ (List.mem_of_getElem? (i := 383) rfl)) rfl
set_option maxRecDepth 20000 in
theorem wq_417 : Cond.code yX4_reference cX4_reference 4 (some .int) ∈ yW := yW_of (List.mem_append_right _ (List.mem_of_getElem? (i := 384) rfl)) rfl
set_option maxRecDepth 20000 in
theorem wq_418 : Cond.methodLink RL 63 yX4_holds ∈ yW := yW_of (List.mem_append_right _ (List.mem_of_getElem? (i := 385) rfl)) rfl
set_option maxRecDepth 20000 in
theorem wq_419 : Cond.instanceMethod yX4_holds ∈ yW := yW_of (List.mem_append_right _ (List.mem_of_getElem? (i := 386) rfl)) rfl
set_option maxRecDepth 20000 in
theorem wq_420 : Cond.selects RX4 yX4_holds yX4_holds ∈ yW := yW_of (List.mem_append_right _ (List.mem_of_getElem? (i := 387) rfl)) rfl
set_option maxRecDepth 20000 in
theorem wq_421 : Cond.code yX4_holds cX4_holds 3 (some .int) ∈ yW := yW_of (List.mem_append_right _ (List.mem_of_getElem? (i := 388) rfl)) rfl
set_option maxRecDepth 20000 in
theorem wq_422 : Cond.methodLink RL 67 yX4_count ∈ yW := yW_of (List.mem_append_right _ (List.mem_of_getElem? (i := 389) rfl)) rfl
set_option maxRecDepth 20000 in
theorem wq_423 : Cond.instanceMethod yX4_count ∈ yW := yW_of (List.mem_append_right _ (List.mem_of_getElem? (i := 390) rfl)) rfl
set_option maxRecDepth 20000 in
theorem wq_424 : Cond.selects RX4 yX4_count yX4_count ∈ yW := yW_of (List.mem_append_right _ (List.mem_of_getElem? (i := 391) rfl)) rfl
set_option maxRecDepth 20000 in
theorem wq_425 : Cond.code yX4_count cX4_count 2 (some .int) ∈ yW := yW_of (List.mem_append_right _ (List.mem_of_getElem? (i := 392) rfl)) rfl
set_option maxRecDepth 20000 in
theorem wq_426 : Cond.methodLink RX4 153 yJL_bitCount ∈ yW := yW_of (List.mem_append_right _ (List.mem_of_getElem? (i := 393) rfl)) rfl
set_option maxRecDepth 20000 in
theorem wq_427 : Cond.methodLink RL 71 yX4_talk ∈ yW := yW_of (List.mem_append_right _ (List.mem_of_getElem? (i := 394) rfl)) rfl
set_option maxRecDepth 20000 in
theorem wq_428 : Cond.instanceMethod yX4_talk ∈ yW := yW_of (List.mem_append_right _ (List.mem_of_getElem? (i := 395) rfl)) rfl
set_option maxRecDepth 20000 in
theorem wq_429 : Cond.selects RX4 yX4_talk yX4_talk ∈ yW := yW_of (List.mem_append_right _ (List.mem_of_getElem? (i := 396) rfl)) rfl
set_option maxRecDepth 20000 in
theorem wq_430 : Cond.code yX4_talk cX4_talk 2 (some .int) ∈ yW := yW_of (List.mem_append_right _ (List.mem_of_getElem? (i := 397) rfl)) rfl
set_option maxRecDepth 20000 in
theorem wq_431 : Cond.methodLink RX4 158 yX3_havesSent ∈ yW := yW_of (List.mem_append_right _ (List.mem_of_getElem? (i := 398) rfl)) rfl
set_option maxRecDepth 20000 in
theorem wq_432 : Cond.instanceMethod yX3_havesSent ∈ yW := yW_of (List.mem_append_right _ (List.mem_of_getElem? (i := 399) rfl)) rfl
set_option maxRecDepth 20000 in
theorem wq_433 : Cond.selects RX3 yX3_havesSent yX3_havesSent ∈ yW := yW_of (List.mem_append_right _ (List.mem_of_getElem? (i := 400) rfl)) rfl
set_option maxRecDepth 20000 in
theorem wq_434 : Cond.code yX3_havesSent cX3_havesSent 1 (some .int) ∈ yW := yW_of (List.mem_append_right _ (List.mem_of_getElem? (i := 401) rfl)) rfl
set_option maxRecDepth 20000 in
theorem wq_435 : Cond.methodLink RX4 161 yX3_havesAcknowledged ∈ yW := yW_of (List.mem_append_right _ (List.mem_of_getElem? (i := 402) rfl)) rfl
set_option maxRecDepth 20000 in
theorem wq_436 : Cond.instanceMethod yX3_havesAcknowledged ∈ yW := yW_of (List.mem_append_right _ (List.mem_of_getElem? (i := 403) rfl)) rfl
set_option maxRecDepth 20000 in
theorem wq_437 : Cond.selects RX3 yX3_havesAcknowledged yX3_havesAcknowledged ∈ yW := yW_of (List.mem_append_right _ (List.mem_of_getElem? (i := 404) rfl)) rfl
set_option maxRecDepth 20000 in
theorem wq_438 : Cond.code yX3_havesAcknowledged cX3_havesAcknowledged 1 (some .int) ∈ yW := yW_of (List.mem_append_right _ (List.mem_of_getElem? (i := 405) rfl)) rfl
set_option maxRecDepth 20000 in
theorem wq_439 : Cond.methodLink RX4 164 yX3_roundsHeld ∈ yW := yW_of (List.mem_append_right _ (List.mem_of_getElem? (i := 406) rfl)) rfl
set_option maxRecDepth 20000 in
theorem wq_440 : Cond.instanceMethod yX3_roundsHeld ∈ yW := yW_of (List.mem_append_right _ (List.mem_of_getElem? (i := 407) rfl)) rfl
set_option maxRecDepth 20000 in
theorem wq_441 : Cond.selects RX3 yX3_roundsHeld yX3_roundsHeld ∈ yW := yW_of (List.mem_append_right _ (List.mem_of_getElem? (i := 408) rfl)) rfl
set_option maxRecDepth 20000 in
theorem wq_442 : Cond.code yX3_roundsHeld cX3_roundsHeld 1 (some .int) ∈ yW := yW_of (List.mem_append_right _ (List.mem_of_getElem? (i := 409) rfl)) rfl
set_option maxRecDepth 20000 in
theorem wq_443 : Cond.methodLink RL 75 yX4_packed ∈ yW := yW_of (List.mem_append_right _ (List.mem_of_getElem? (i := 410) rfl)) rfl
set_option maxRecDepth 20000 in
theorem wq_444 : Cond.instanceMethod yX4_packed ∈ yW := yW_of (List.mem_append_right _ (List.mem_of_getElem? (i := 411) rfl)) rfl
set_option maxRecDepth 20000 in
theorem wq_445 : Cond.selects RX4 yX4_packed yX4_packed ∈ yW := yW_of (List.mem_append_right _ (List.mem_of_getElem? (i := 412) rfl)) rfl
set_option maxRecDepth 20000 in
theorem wq_446 : Cond.code yX4_packed cX4_packed 1 (some .int) ∈ yW := yW_of (List.mem_append_right _ (List.mem_of_getElem? (i := 413) rfl)) rfl
set_option maxRecDepth 20000 in
theorem wq_447 : Cond.methodLink RL 80 yX4_packAt ∈ yW := yW_of (List.mem_append_right _ (List.mem_of_getElem? (i := 414) rfl)) rfl
set_option maxRecDepth 20000 in
theorem wq_448 : Cond.instanceMethod yX4_packAt ∈ yW := yW_of (List.mem_append_right _ (List.mem_of_getElem? (i := 415) rfl)) rfl
set_option maxRecDepth 20000 in
theorem wq_449 : Cond.selects RX4 yX4_packAt yX4_packAt ∈ yW := yW_of (List.mem_append_right _ (List.mem_of_getElem? (i := 416) rfl)) rfl
set_option maxRecDepth 20000 in
theorem wq_450 : Cond.code yX4_packAt cX4_packAt 2 (some .int) ∈ yW := yW_of (List.mem_append_right _ (List.mem_of_getElem? (i := 417) rfl)) rfl
set_option maxRecDepth 20000 in
theorem wq_451 : Cond.methodLink RX4 167 yX1_objectAt ∈ yW := yW_of (List.mem_append_right _ (List.mem_of_getElem? (i := 418) rfl)) rfl
set_option maxRecDepth 20000 in
theorem wq_452 : Cond.instanceMethod yX1_objectAt ∈ yW := yW_of (List.mem_append_right _ (List.mem_of_getElem? (i := 419) rfl)) rfl
set_option maxRecDepth 20000 in
theorem wq_453 : Cond.selects RX1 yX1_objectAt yX1_objectAt ∈ yW := yW_of (List.mem_append_right _ (List.mem_of_getElem? (i := 420) rfl)) rfl
set_option maxRecDepth 20000 in
theorem wq_454 : Cond.code yX1_objectAt cX1_objectAt 2 (some .int) ∈ yW := yW_of (List.mem_append_right _ (List.mem_of_getElem? (i := 421) rfl)) rfl
set_option maxRecDepth 20000 in
theorem wq_455 : Cond.methodLink RX1 36 yX1_isPlace ∈ yW := yW_of (List.mem_append_right _ (List.mem_of_getElem? (i := 422) rfl)) rfl
set_option maxRecDepth 20000 in
theorem wq_457 : Cond.instanceMethod yX1_isPlace ∈ yW := yW_of (List.mem_append_right _ (List.mem_of_getElem? (i := 424) rfl)) rfl
set_option maxRecDepth 20000 in
theorem wq_458 : Cond.code yX1_isPlace cX1_isPlace 2 (some .boolean) ∈ yW := yW_of (List.mem_append_right _ (List.mem_of_getElem? (i := 425) rfl)) rfl
set_option maxRecDepth 20000 in
theorem wq_459 : Cond.methodLink RL 84 yX4_base ∈ yW := yW_of (List.mem_append_right _ (List.mem_of_getElem? (i := 426) rfl)) rfl
set_option maxRecDepth 20000 in
theorem wq_460 : Cond.instanceMethod yX4_base ∈ yW := yW_of (List.mem_append_right _ (List.mem_of_getElem? (i := 427) rfl)) rfl
set_option maxRecDepth 20000 in
theorem wq_461 : Cond.selects RX4 yX4_base yX4_base ∈ yW := yW_of (List.mem_append_right _ (List.mem_of_getElem? (i := 428) rfl)) rfl
set_option maxRecDepth 20000 in
theorem wq_462 : Cond.code yX4_base cX4_base 2 (some .int) ∈ yW := yW_of (List.mem_append_right _ (List.mem_of_getElem? (i := 429) rfl)) rfl
set_option maxRecDepth 20000 in
theorem wq_463 : Cond.methodLink RX4 170 yX1_baseAt ∈ yW := yW_of (List.mem_append_right _ (List.mem_of_getElem? (i := 430) rfl)) rfl
set_option maxRecDepth 20000 in
theorem wq_464 : Cond.instanceMethod yX1_baseAt ∈ yW := yW_of (List.mem_append_right _ (List.mem_of_getElem? (i := 431) rfl)) rfl
set_option maxRecDepth 20000 in
theorem wq_465 : Cond.selects RX1 yX1_baseAt yX1_baseAt ∈ yW := yW_of (List.mem_append_right _ (List.mem_of_getElem? (i := 432) rfl)) rfl
set_option maxRecDepth 20000 in
theorem wq_466 : Cond.code yX1_baseAt cX1_baseAt 2 (some .int) ∈ yW := yW_of (List.mem_append_right _ (List.mem_of_getElem? (i := 433) rfl)) rfl
set_option maxRecDepth 20000 in
theorem wq_467 : Cond.methodLink RL 88 yX4_weight ∈ yW := yW_of (List.mem_append_right _ (List.mem_of_getElem? (i := 434) rfl)) rfl
set_option maxRecDepth 20000 in
theorem wq_468 : Cond.instanceMethod yX4_weight ∈ yW := yW_of (List.mem_append_right _ (List.mem_of_getElem? (i := 435) rfl)) rfl
set_option maxRecDepth 20000 in
theorem wq_469 : Cond.selects RX4 yX4_weight yX4_weight ∈ yW := yW_of (List.mem_append_right _ (List.mem_of_getElem? (i := 436) rfl)) rfl
set_option maxRecDepth 20000 in
theorem wq_470 : Cond.code yX4_weight cX4_weight 1 (some .int) ∈ yW := yW_of (List.mem_append_right _ (List.mem_of_getElem? (i := 437) rfl)) rfl
set_option maxRecDepth 20000 in
theorem wq_471 : Cond.methodLink RX4 173 yX1_totalWeight ∈ yW := yW_of (List.mem_append_right _ (List.mem_of_getElem? (i := 438) rfl)) rfl
set_option maxRecDepth 20000 in
theorem wq_472 : Cond.instanceMethod yX1_totalWeight ∈ yW := yW_of (List.mem_append_right _ (List.mem_of_getElem? (i := 439) rfl)) rfl
set_option maxRecDepth 20000 in
theorem wq_473 : Cond.selects RX1 yX1_totalWeight yX1_totalWeight ∈ yW := yW_of (List.mem_append_right _ (List.mem_of_getElem? (i := 440) rfl)) rfl
set_option maxRecDepth 20000 in
theorem wq_474 : Cond.code yX1_totalWeight cX1_totalWeight 1 (some .int) ∈ yW := yW_of (List.mem_append_right _ (List.mem_of_getElem? (i := 441) rfl)) rfl
set_option maxRecDepth 20000 in
theorem wq_475 : Cond.methodLink RL 92 yX4_verdict ∈ yW := yW_of (List.mem_append_right _ (List.mem_of_getElem? (i := 442) rfl)) rfl
set_option maxRecDepth 20000 in
theorem wq_476 : Cond.instanceMethod yX4_verdict ∈ yW := yW_of (List.mem_append_right _ (List.mem_of_getElem? (i := 443) rfl)) rfl
set_option maxRecDepth 20000 in
theorem wq_477 : Cond.selects RX4 yX4_verdict yX4_verdict ∈ yW := yW_of (List.mem_append_right _ (List.mem_of_getElem? (i := 444) rfl)) rfl
set_option maxRecDepth 20000 in
theorem wq_478 : Cond.code yX4_verdict cX4_verdict 2 (some .int) ∈ yW := yW_of (List.mem_append_right _ (List.mem_of_getElem? (i := 445) rfl)) rfl
set_option maxRecDepth 20000 in
theorem wq_479 : Cond.classLink RL 10 RX5 ∈ yW := yW_of (List.mem_append_right _ (List.mem_of_getElem? (i := 446) rfl)) rfl
set_option maxRecDepth 20000 in
theorem wq_480 : Cond.instantiable RX5 25 ∈ yW := yW_of (List.mem_append_right _ (List.mem_of_getElem? (i := 447) rfl)) rfl
set_option maxRecDepth 20000 in
theorem wq_481 : Cond.methodLink RL 12 yX5_init ∈ yW := yW_of (List.mem_append_right _ (List.mem_of_getElem? (i := 448) rfl)) rfl
set_option maxRecDepth 20000 in
theorem wq_482 : Cond.instanceMethod yX5_init ∈ yW := yW_of (List.mem_append_right _ (List.mem_of_getElem? (i := 449) rfl)) rfl
set_option maxRecDepth 20000 in
theorem wq_483 : Cond.code yX5_init cX5_init 1 none ∈ yW := yW_of (List.mem_append_right _ (List.mem_of_getElem? (i := 450) rfl)) rfl
set_option maxRecDepth 20000 in
theorem wq_484 : Cond.methodLink RX5 1 objectInit ∈ yW := yW_of (List.mem_append_right _ (List.mem_of_getElem? (i := 451) rfl)) rfl
set_option maxRecDepth 20000 in
theorem wq_485 : Cond.fieldLink RX5 69 "PackExchangeModel" "objects" "I" ∈ yW := yW_of (List.mem_append_right _ (List.mem_of_getElem? (i := 452) rfl)) rfl
set_option maxRecDepth 20000 in
theorem wq_486 : Cond.fieldLink RX5 7 "PackExchangeModel" "kind" "[I" ∈ yW := yW_of (List.mem_append_right _ (List.mem_of_getElem? (i := 453) rfl)) rfl
set_option maxRecDepth 20000 in
theorem wq_487 : Cond.fieldLink RX5 13 "PackExchangeModel" "one" "[I" ∈ yW := yW_of (List.mem_append_right _ (List.mem_of_getElem? (i := 454) rfl)) rfl
set_option maxRecDepth 20000 in
theorem wq_488 : Cond.fieldLink RX5 16 "PackExchangeModel" "two" "[I" ∈ yW := yW_of (List.mem_append_right _ (List.mem_of_getElem? (i := 455) rfl)) rfl
set_option maxRecDepth 20000 in
theorem wq_489 : Cond.fieldLink RX5 19 "PackExchangeModel" "three" "[I" ∈ yW := yW_of (List.mem_append_right _ (List.mem_of_getElem? (i := 456) rfl)) rfl
set_option maxRecDepth 20000 in
theorem wq_490 : Cond.fieldLink RX5 22 "PackExchangeModel" "held" "[J" ∈ yW := yW_of (List.mem_append_right _ (List.mem_of_getElem? (i := 457) rfl)) rfl
set_option maxRecDepth 20000 in
theorem wq_491 : Cond.fieldLink RX5 26 "PackExchangeModel" "ref" "[I" ∈ yW := yW_of (List.mem_append_right _ (List.mem_of_getElem? (i := 458) rfl)) rfl
set_option maxRecDepth 20000 in
theorem wq_492 : Cond.fieldLink RX5 29 "PackExchangeModel" "dark" "[Z" ∈ yW := yW_of (List.mem_append_right _ (List.mem_of_getElem? (i := 459) rfl)) rfl
set_option maxRecDepth 20000 in
theorem wq_493 : Cond.fieldLink RX5 33 "PackExchangeModel" "fuse" "[I" ∈ yW := yW_of (List.mem_append_right _ (List.mem_of_getElem? (i := 460) rfl)) rfl
set_option maxRecDepth 20000 in
theorem wq_494 : Cond.fieldLink RX5 36 "PackExchangeModel" "noted" "[I" ∈ yW := yW_of (List.mem_append_right _ (List.mem_of_getElem? (i := 461) rfl)) rfl
set_option maxRecDepth 20000 in
theorem wq_495 : Cond.fieldLink RX5 39 "PackExchangeModel" "sealed" "[Z" ∈ yW := yW_of (List.mem_append_right _ (List.mem_of_getElem? (i := 462) rfl)) rfl
set_option maxRecDepth 20000 in
theorem wq_496 : Cond.fieldLink RX5 42 "PackExchangeModel" "noteRef" "[I" ∈ yW := yW_of (List.mem_append_right _ (List.mem_of_getElem? (i := 463) rfl)) rfl
set_option maxRecDepth 20000 in
theorem wq_497 : Cond.fieldLink RX5 45 "PackExchangeModel" "noteValue" "[I" ∈ yW := yW_of (List.mem_append_right _ (List.mem_of_getElem? (i := 464) rfl)) rfl
set_option maxRecDepth 20000 in
theorem wq_498 : Cond.fieldLink RX5 81 "PackExchangeModel" "wishes" "I" ∈ yW := yW_of (List.mem_append_right _ (List.mem_of_getElem? (i := 465) rfl)) rfl
set_option maxRecDepth 20000 in
theorem wq_499 : Cond.fieldLink RX5 48 "PackExchangeModel" "wishRef" "[I" ∈ yW := yW_of (List.mem_append_right _ (List.mem_of_getElem? (i := 466) rfl)) rfl
set_option maxRecDepth 20000 in
theorem wq_500 : Cond.fieldLink RX5 51 "PackExchangeModel" "wishValue" "[I" ∈ yW := yW_of (List.mem_append_right _ (List.mem_of_getElem? (i := 467) rfl)) rfl
set_option maxRecDepth 20000 in
theorem wq_501 : Cond.fieldLink RX5 127 "PackExchangeModel" "haves" "I" ∈ yW := yW_of (List.mem_append_right _ (List.mem_of_getElem? (i := 468) rfl)) rfl
set_option maxRecDepth 20000 in
theorem wq_502 : Cond.fieldLink RX5 130 "PackExchangeModel" "acks" "I" ∈ yW := yW_of (List.mem_append_right _ (List.mem_of_getElem? (i := 469) rfl)) rfl
set_option maxRecDepth 20000 in
theorem wq_503 : Cond.fieldLink RX5 124 "PackExchangeModel" "rounds" "I" ∈ yW := yW_of (List.mem_append_right _ (List.mem_of_getElem? (i := 470) rfl)) rfl
set_option maxRecDepth 20000 in
theorem wq_504 : Cond.fieldLink RX5 54 "PackExchangeModel" "verdicts" "[I" ∈ yW := yW_of (List.mem_append_right _ (List.mem_of_getElem? (i := 471) rfl)) rfl
set_option maxRecDepth 20000 in
theorem wq_505 : Cond.fieldLink RX5 107 "PackExchangeModel" "size" "I" ∈ yW := yW_of (List.mem_append_right _ (List.mem_of_getElem? (i := 472) rfl)) rfl
set_option maxRecDepth 20000 in
theorem wq_506 : Cond.fieldLink RX5 57 "PackExchangeModel" "at" "[I" ∈ yW := yW_of (List.mem_append_right _ (List.mem_of_getElem? (i := 473) rfl)) rfl
set_option maxRecDepth 20000 in
theorem wq_507 : Cond.fieldLink RX5 60 "PackExchangeModel" "bases" "[I" ∈ yW := yW_of (List.mem_append_right _ (List.mem_of_getElem? (i := 474) rfl)) rfl
set_option maxRecDepth 20000 in
theorem wq_508 : Cond.fieldLink RX5 63 "PackExchangeModel" "chain" "[I" ∈ yW := yW_of (List.mem_append_right _ (List.mem_of_getElem? (i := 475) rfl)) rfl
set_option maxRecDepth 20000 in
theorem wq_509 : Cond.fieldLink RX5 66 "PackExchangeModel" "weights" "[I" ∈ yW := yW_of (List.mem_append_right _ (List.mem_of_getElem? (i := 476) rfl)) rfl
set_option maxRecDepth 20000 in
theorem wq_561 : Cond.arrayClass .boolean ∈ yW := yW_of (List.mem_append_right _ (List.mem_of_getElem? (i := 528) rfl)) rfl
set_option maxRecDepth 20000 in
theorem wq_562 : Cond.methodLink RL 17 yX5_blob ∈ yW := yW_of (List.mem_append_right _ (List.mem_of_getElem? (i := 529) rfl)) rfl
set_option maxRecDepth 20000 in
theorem wq_563 : Cond.instanceMethod yX5_blob ∈ yW := yW_of (List.mem_append_right _ (List.mem_of_getElem? (i := 530) rfl)) rfl
set_option maxRecDepth 20000 in
theorem wq_564 : Cond.selects RX5 yX5_blob yX5_blob ∈ yW := yW_of (List.mem_append_right _ (List.mem_of_getElem? (i := 531) rfl)) rfl
set_option maxRecDepth 20000 in
theorem wq_565 : Cond.code yX5_blob cX5_blob 3 (some .int) ∈ yW := yW_of (List.mem_append_right _ (List.mem_of_getElem? (i := 532) rfl)) rfl
set_option maxRecDepth 20000 in
theorem wq_566 : Cond.methodLink RX5 90 yX5_isNode ∈ yW := yW_of (List.mem_append_right _ (List.mem_of_getElem? (i := 533) rfl)) rfl
set_option maxRecDepth 20000 in
theorem wq_567 : Cond.static yX5_isNode ∈ yW := yW_of (List.mem_append_right _ (List.mem_of_getElem? (i := 534) rfl)) rfl
set_option maxRecDepth 20000 in
theorem wq_568 : Cond.code yX5_isNode cX5_isNode 1 (some .boolean) ∈ yW := yW_of (List.mem_append_right _ (List.mem_of_getElem? (i := 535) rfl)) rfl
set_option maxRecDepth 20000 in
theorem wq_569 : Cond.methodLink RX5 93 yX5_make ∈ yW := yW_of (List.mem_append_right _ (List.mem_of_getElem? (i := 536) rfl)) rfl
set_option maxRecDepth 20000 in
theorem wq_571 : Cond.instanceMethod yX5_make ∈ yW := yW_of (List.mem_append_right _ (List.mem_of_getElem? (i := 538) rfl)) rfl
set_option maxRecDepth 20000 in
theorem wq_572 : Cond.code yX5_make cX5_make 7 (some .int) ∈ yW := yW_of (List.mem_append_right _ (List.mem_of_getElem? (i := 539) rfl)) rfl
set_option maxRecDepth 20000 in
theorem wq_573 : Cond.methodLink RX5 73 yX5_has ∈ yW := yW_of (List.mem_append_right _ (List.mem_of_getElem? (i := 540) rfl)) rfl
set_option maxRecDepth 20000 in
theorem wq_575 : Cond.instanceMethod yX5_has ∈ yW := yW_of (List.mem_append_right _ (List.mem_of_getElem? (i := 542) rfl)) rfl
set_option maxRecDepth 20000 in
theorem wq_576 : Cond.code yX5_has cX5_has 3 (some .boolean) ∈ yW := yW_of (List.mem_append_right _ (List.mem_of_getElem? (i := 543) rfl)) rfl
set_option maxRecDepth 20000 in
theorem wq_577 : Cond.methodLink RX5 77 yX5_write ∈ yW := yW_of (List.mem_append_right _ (List.mem_of_getElem? (i := 544) rfl)) rfl
set_option maxRecDepth 20000 in
theorem wq_579 : Cond.instanceMethod yX5_write ∈ yW := yW_of (List.mem_append_right _ (List.mem_of_getElem? (i := 546) rfl)) rfl
set_option maxRecDepth 20000 in
theorem wq_580 : Cond.code yX5_write cX5_write 2 (some .boolean) ∈ yW := yW_of (List.mem_append_right _ (List.mem_of_getElem? (i := 547) rfl)) rfl
set_option maxRecDepth 20000 in
theorem wq_581 : Cond.methodLink RL 22 yX5_tree ∈ yW := yW_of (List.mem_append_right _ (List.mem_of_getElem? (i := 548) rfl)) rfl
set_option maxRecDepth 20000 in
theorem wq_582 : Cond.instanceMethod yX5_tree ∈ yW := yW_of (List.mem_append_right _ (List.mem_of_getElem? (i := 549) rfl)) rfl
set_option maxRecDepth 20000 in
theorem wq_583 : Cond.selects RX5 yX5_tree yX5_tree ∈ yW := yW_of (List.mem_append_right _ (List.mem_of_getElem? (i := 550) rfl)) rfl
set_option maxRecDepth 20000 in
theorem wq_584 : Cond.code yX5_tree cX5_tree 4 (some .int) ∈ yW := yW_of (List.mem_append_right _ (List.mem_of_getElem? (i := 551) rfl)) rfl
set_option maxRecDepth 20000 in
theorem wq_585 : Cond.methodLink RX5 97 yX5_entry ∈ yW := yW_of (List.mem_append_right _ (List.mem_of_getElem? (i := 552) rfl)) rfl
set_option maxRecDepth 20000 in
theorem wq_587 : Cond.instanceMethod yX5_entry ∈ yW := yW_of (List.mem_append_right _ (List.mem_of_getElem? (i := 554) rfl)) rfl
set_option maxRecDepth 20000 in
theorem wq_588 : Cond.code yX5_entry cX5_entry 3 (some .boolean) ∈ yW := yW_of (List.mem_append_right _ (List.mem_of_getElem? (i := 555) rfl)) rfl
set_option maxRecDepth 20000 in
theorem wq_589 : Cond.methodLink RL 27 yX5_commit ∈ yW := yW_of (List.mem_append_right _ (List.mem_of_getElem? (i := 556) rfl)) rfl
set_option maxRecDepth 20000 in
theorem wq_590 : Cond.instanceMethod yX5_commit ∈ yW := yW_of (List.mem_append_right _ (List.mem_of_getElem? (i := 557) rfl)) rfl
set_option maxRecDepth 20000 in
theorem wq_591 : Cond.selects RX5 yX5_commit yX5_commit ∈ yW := yW_of (List.mem_append_right _ (List.mem_of_getElem? (i := 558) rfl)) rfl
set_option maxRecDepth 20000 in
theorem wq_592 : Cond.code yX5_commit cX5_commit 7 (some .int) ∈ yW := yW_of (List.mem_append_right _ (List.mem_of_getElem? (i := 559) rfl)) rfl
set_option maxRecDepth 20000 in
theorem wq_593 : Cond.methodLink RX5 100 yX5_wish ∈ yW := yW_of (List.mem_append_right _ (List.mem_of_getElem? (i := 560) rfl)) rfl
set_option maxRecDepth 20000 in
theorem wq_595 : Cond.instanceMethod yX5_wish ∈ yW := yW_of (List.mem_append_right _ (List.mem_of_getElem? (i := 562) rfl)) rfl
set_option maxRecDepth 20000 in
theorem wq_596 : Cond.code yX5_wish cX5_wish 3 none ∈ yW := yW_of (List.mem_append_right _ (List.mem_of_getElem? (i := 563) rfl)) rfl
set_option maxRecDepth 20000 in
theorem wq_597 : Cond.methodLink RX5 104 yX5_transact ∈ yW := yW_of (List.mem_append_right _ (List.mem_of_getElem? (i := 564) rfl)) rfl
set_option maxRecDepth 20000 in
theorem wq_599 : Cond.instanceMethod yX5_transact ∈ yW := yW_of (List.mem_append_right _ (List.mem_of_getElem? (i := 566) rfl)) rfl
set_option maxRecDepth 20000 in
theorem wq_600 : Cond.code yX5_transact cX5_transact 4 (some .boolean) ∈ yW := yW_of (List.mem_append_right _ (List.mem_of_getElem? (i := 567) rfl)) rfl
set_option maxRecDepth 20000 in
theorem wq_601 : Cond.methodLink RX5 84 yX5_replay ∈ yW := yW_of (List.mem_append_right _ (List.mem_of_getElem? (i := 568) rfl)) rfl
set_option maxRecDepth 20000 in
theorem wq_603 : Cond.instanceMethod yX5_replay ∈ yW := yW_of (List.mem_append_right _ (List.mem_of_getElem? (i := 570) rfl)) rfl
set_option maxRecDepth 20000 in
theorem wq_604 : Cond.code yX5_replay cX5_replay 3 (some .boolean) ∈ yW := yW_of (List.mem_append_right _ (List.mem_of_getElem? (i := 571) rfl)) rfl
set_option maxRecDepth 20000 in
theorem wq_605 : Cond.methodLink RX5 87 yX5_wipe ∈ yW := yW_of (List.mem_append_right _ (List.mem_of_getElem? (i := 572) rfl)) rfl
set_option maxRecDepth 20000 in
theorem wq_607 : Cond.instanceMethod yX5_wipe ∈ yW := yW_of (List.mem_append_right _ (List.mem_of_getElem? (i := 574) rfl)) rfl
set_option maxRecDepth 20000 in
theorem wq_608 : Cond.code yX5_wipe cX5_wipe 2 (some .boolean) ∈ yW := yW_of (List.mem_append_right _ (List.mem_of_getElem? (i := 575) rfl)) rfl
set_option maxRecDepth 20000 in
theorem wq_609 : Cond.methodLink RL 31 yX5_point ∈ yW := yW_of (List.mem_append_right _ (List.mem_of_getElem? (i := 576) rfl)) rfl
set_option maxRecDepth 20000 in
theorem wq_610 : Cond.instanceMethod yX5_point ∈ yW := yW_of (List.mem_append_right _ (List.mem_of_getElem? (i := 577) rfl)) rfl
set_option maxRecDepth 20000 in
theorem wq_611 : Cond.selects RX5 yX5_point yX5_point ∈ yW := yW_of (List.mem_append_right _ (List.mem_of_getElem? (i := 578) rfl)) rfl
set_option maxRecDepth 20000 in
theorem wq_612 : Cond.code yX5_point cX5_point 4 (some .int) ∈ yW := yW_of (List.mem_append_right _ (List.mem_of_getElem? (i := 579) rfl)) rfl
set_option maxRecDepth 20000 in
theorem wq_613 : Cond.methodLink RL 35 yX5_fetch ∈ yW := yW_of (List.mem_append_right _ (List.mem_of_getElem? (i := 580) rfl)) rfl
set_option maxRecDepth 20000 in
theorem wq_614 : Cond.instanceMethod yX5_fetch ∈ yW := yW_of (List.mem_append_right _ (List.mem_of_getElem? (i := 581) rfl)) rfl
set_option maxRecDepth 20000 in
theorem wq_615 : Cond.selects RX5 yX5_fetch yX5_fetch ∈ yW := yW_of (List.mem_append_right _ (List.mem_of_getElem? (i := 582) rfl)) rfl
set_option maxRecDepth 20000 in
theorem wq_616 : Cond.code yX5_fetch cX5_fetch 9 (some .int) ∈ yW := yW_of (List.mem_append_right _ (List.mem_of_getElem? (i := 583) rfl)) rfl
set_option maxRecDepth 20000 in
theorem wq_617 : Cond.methodLink RX5 141 yX5_converse ∈ yW := yW_of (List.mem_append_right _ (List.mem_of_getElem? (i := 584) rfl)) rfl
set_option maxRecDepth 20000 in
theorem wq_619 : Cond.instanceMethod yX5_converse ∈ yW := yW_of (List.mem_append_right _ (List.mem_of_getElem? (i := 586) rfl)) rfl
set_option maxRecDepth 20000 in
theorem wq_620 : Cond.code yX5_converse cX5_converse 15 (some .long) ∈ yW := yW_of (List.mem_append_right _ (List.mem_of_getElem? (i := 587) rfl)) rfl
set_option maxRecDepth 20000 in
theorem wq_621 : Cond.methodLink RX5 118 yX5_tips ∈ yW := yW_of (List.mem_append_right _ (List.mem_of_getElem? (i := 588) rfl)) rfl
set_option maxRecDepth 20000 in
theorem wq_623 : Cond.instanceMethod yX5_tips ∈ yW := yW_of (List.mem_append_right _ (List.mem_of_getElem? (i := 590) rfl)) rfl
set_option maxRecDepth 20000 in
theorem wq_624 : Cond.code yX5_tips cX5_tips 7 (some .long) ∈ yW := yW_of (List.mem_append_right _ (List.mem_of_getElem? (i := 591) rfl)) rfl
set_option maxRecDepth 20000 in
theorem wq_625 : Cond.methodLink RX5 114 yX5_reach ∈ yW := yW_of (List.mem_append_right _ (List.mem_of_getElem? (i := 592) rfl)) rfl
set_option maxRecDepth 20000 in
theorem wq_627 : Cond.instanceMethod yX5_reach ∈ yW := yW_of (List.mem_append_right _ (List.mem_of_getElem? (i := 594) rfl)) rfl
set_option maxRecDepth 20000 in
theorem wq_628 : Cond.code yX5_reach cX5_reach 6 (some .long) ∈ yW := yW_of (List.mem_append_right _ (List.mem_of_getElem? (i := 595) rfl)) rfl
set_option maxRecDepth 20000 in
theorem wq_629 : Cond.constantLong RX5 122 (-1) ∈ yW := yW_of (List.mem_append_right _ (List.mem_of_getElem? (i := 596) rfl)) rfl
set_option maxRecDepth 20000 in
theorem wq_630 : Cond.methodLink RX5 133 yX5_many ∈ yW := yW_of (List.mem_append_right _ (List.mem_of_getElem? (i := 597) rfl)) rfl
set_option maxRecDepth 20000 in
theorem wq_631 : Cond.static yX5_many ∈ yW := yW_of (List.mem_append_right _ (List.mem_of_getElem? (i := 598) rfl)) rfl
set_option maxRecDepth 20000 in
theorem wq_632 : Cond.code yX5_many cX5_many 4 (some .int) ∈ yW := yW_of (List.mem_append_right _ (List.mem_of_getElem? (i := 599) rfl)) rfl
set_option maxRecDepth 20000 in
theorem wq_633 : Cond.methodLink RX5 137 yX5_allReach ∈ yW := yW_of (List.mem_append_right _ (List.mem_of_getElem? (i := 600) rfl)) rfl
set_option maxRecDepth 20000 in
theorem wq_635 : Cond.instanceMethod yX5_allReach ∈ yW := yW_of (List.mem_append_right _ (List.mem_of_getElem? (i := 602) rfl)) rfl
set_option maxRecDepth 20000 in
theorem wq_636 : Cond.code yX5_allReach cX5_allReach 6 (some .boolean) ∈ yW := yW_of (List.mem_append_right _ (List.mem_of_getElem? (i := 603) rfl)) rfl
set_option maxRecDepth 20000 in
theorem wq_637 : Cond.methodLink RX5 145 yX5_pack ∈ yW := yW_of (List.mem_append_right _ (List.mem_of_getElem? (i := 604) rfl)) rfl
set_option maxRecDepth 20000 in
theorem wq_639 : Cond.instanceMethod yX5_pack ∈ yW := yW_of (List.mem_append_right _ (List.mem_of_getElem? (i := 606) rfl)) rfl
set_option maxRecDepth 20000 in
theorem wq_640 : Cond.code yX5_pack cX5_pack 5 none ∈ yW := yW_of (List.mem_append_right _ (List.mem_of_getElem? (i := 607) rfl)) rfl
set_option maxRecDepth 20000 in
theorem wq_641 : Cond.methodLink RX5 110 yX5_place ∈ yW := yW_of (List.mem_append_right _ (List.mem_of_getElem? (i := 608) rfl)) rfl
set_option maxRecDepth 20000 in
theorem wq_643 : Cond.instanceMethod yX5_place ∈ yW := yW_of (List.mem_append_right _ (List.mem_of_getElem? (i := 610) rfl)) rfl
set_option maxRecDepth 20000 in
theorem wq_644 : Cond.code yX5_place cX5_place 6 none ∈ yW := yW_of (List.mem_append_right _ (List.mem_of_getElem? (i := 611) rfl)) rfl
set_option maxRecDepth 20000 in
theorem wq_645 : Cond.methodLink RX5 149 yX5_store ∈ yW := yW_of (List.mem_append_right _ (List.mem_of_getElem? (i := 612) rfl)) rfl
set_option maxRecDepth 20000 in
theorem wq_647 : Cond.instanceMethod yX5_store ∈ yW := yW_of (List.mem_append_right _ (List.mem_of_getElem? (i := 614) rfl)) rfl
set_option maxRecDepth 20000 in
theorem wq_648 : Cond.code yX5_store cX5_store 5 (some .boolean) ∈ yW := yW_of (List.mem_append_right _ (List.mem_of_getElem? (i := 615) rfl)) rfl
set_option maxRecDepth 20000 in
theorem wq_649 : Cond.methodLink RL 39 yX5_push ∈ yW := yW_of (List.mem_append_right _ (List.mem_of_getElem? (i := 616) rfl)) rfl
set_option maxRecDepth 20000 in
theorem wq_650 : Cond.instanceMethod yX5_push ∈ yW := yW_of (List.mem_append_right _ (List.mem_of_getElem? (i := 617) rfl)) rfl
set_option maxRecDepth 20000 in
theorem wq_651 : Cond.selects RX5 yX5_push yX5_push ∈ yW := yW_of (List.mem_append_right _ (List.mem_of_getElem? (i := 618) rfl)) rfl
set_option maxRecDepth 20000 in
theorem wq_652 : Cond.code yX5_push cX5_push 5 (some .int) ∈ yW := yW_of (List.mem_append_right _ (List.mem_of_getElem? (i := 619) rfl)) rfl
set_option maxRecDepth 20000 in
theorem wq_653 : Cond.methodLink RX5 153 yX5_judge ∈ yW := yW_of (List.mem_append_right _ (List.mem_of_getElem? (i := 620) rfl)) rfl
set_option maxRecDepth 20000 in
theorem wq_655 : Cond.instanceMethod yX5_judge ∈ yW := yW_of (List.mem_append_right _ (List.mem_of_getElem? (i := 622) rfl)) rfl
set_option maxRecDepth 20000 in
theorem wq_656 : Cond.code yX5_judge cX5_judge 4 (some .int) ∈ yW := yW_of (List.mem_append_right _ (List.mem_of_getElem? (i := 623) rfl)) rfl
set_option maxRecDepth 20000 in
theorem wq_657 : Cond.methodLink RX5 157 yX5_carry ∈ yW := yW_of (List.mem_append_right _ (List.mem_of_getElem? (i := 624) rfl)) rfl
set_option maxRecDepth 20000 in
theorem wq_659 : Cond.instanceMethod yX5_carry ∈ yW := yW_of (List.mem_append_right _ (List.mem_of_getElem? (i := 626) rfl)) rfl
set_option maxRecDepth 20000 in
theorem wq_660 : Cond.code yX5_carry cX5_carry 12 (some .boolean) ∈ yW := yW_of (List.mem_append_right _ (List.mem_of_getElem? (i := 627) rfl)) rfl
set_option maxRecDepth 20000 in
theorem wq_661 : Cond.methodLink RL 44 yX5_arm ∈ yW := yW_of (List.mem_append_right _ (List.mem_of_getElem? (i := 628) rfl)) rfl
set_option maxRecDepth 20000 in
theorem wq_662 : Cond.instanceMethod yX5_arm ∈ yW := yW_of (List.mem_append_right _ (List.mem_of_getElem? (i := 629) rfl)) rfl
set_option maxRecDepth 20000 in
theorem wq_663 : Cond.selects RX5 yX5_arm yX5_arm ∈ yW := yW_of (List.mem_append_right _ (List.mem_of_getElem? (i := 630) rfl)) rfl
set_option maxRecDepth 20000 in
theorem wq_664 : Cond.code yX5_arm cX5_arm 3 (some .boolean) ∈ yW := yW_of (List.mem_append_right _ (List.mem_of_getElem? (i := 631) rfl)) rfl
set_option maxRecDepth 20000 in
theorem wq_665 : Cond.methodLink RL 49 yX5_recover ∈ yW := yW_of (List.mem_append_right _ (List.mem_of_getElem? (i := 632) rfl)) rfl
set_option maxRecDepth 20000 in
theorem wq_666 : Cond.instanceMethod yX5_recover ∈ yW := yW_of (List.mem_append_right _ (List.mem_of_getElem? (i := 633) rfl)) rfl
set_option maxRecDepth 20000 in
theorem wq_667 : Cond.selects RX5 yX5_recover yX5_recover ∈ yW := yW_of (List.mem_append_right _ (List.mem_of_getElem? (i := 634) rfl)) rfl
set_option maxRecDepth 20000 in
theorem wq_668 : Cond.code yX5_recover cX5_recover 4 (some .int) ∈ yW := yW_of (List.mem_append_right _ (List.mem_of_getElem? (i := 635) rfl)) rfl
set_option maxRecDepth 20000 in
theorem wq_669 : Cond.methodLink RL 53 yX5_collect ∈ yW := yW_of (List.mem_append_right _ (List.mem_of_getElem? (i := 636) rfl)) rfl
set_option maxRecDepth 20000 in
theorem wq_670 : Cond.instanceMethod yX5_collect ∈ yW := yW_of (List.mem_append_right _ (List.mem_of_getElem? (i := 637) rfl)) rfl
set_option maxRecDepth 20000 in
theorem wq_671 : Cond.selects RX5 yX5_collect yX5_collect ∈ yW := yW_of (List.mem_append_right _ (List.mem_of_getElem? (i := 638) rfl)) rfl
set_option maxRecDepth 20000 in
theorem wq_672 : Cond.code yX5_collect cX5_collect 5 (some .int) ∈ yW := yW_of (List.mem_append_right _ (List.mem_of_getElem? (i := 639) rfl)) rfl
set_option maxRecDepth 20000 in
theorem wq_673 : Cond.methodLink RL 58 yX5_up ∈ yW := yW_of (List.mem_append_right _ (List.mem_of_getElem? (i := 640) rfl)) rfl
set_option maxRecDepth 20000 in
theorem wq_674 : Cond.instanceMethod yX5_up ∈ yW := yW_of (List.mem_append_right _ (List.mem_of_getElem? (i := 641) rfl)) rfl
set_option maxRecDepth 20000 in
theorem wq_675 : Cond.selects RX5 yX5_up yX5_up ∈ yW := yW_of (List.mem_append_right _ (List.mem_of_getElem? (i := 642) rfl)) rfl
set_option maxRecDepth 20000 in
theorem wq_676 : Cond.code yX5_up cX5_up 2 (some .boolean) ∈ yW := yW_of (List.mem_append_right _ (List.mem_of_getElem? (i := 643) rfl)) rfl
set_option maxRecDepth 20000 in
theorem wq_677 : Cond.methodLink RL 62 yX5_reference ∈ yW := yW_of (List.mem_append_right _ (List.mem_of_getElem? (i := 644) rfl)) rfl
set_option maxRecDepth 20000 in
theorem wq_678 : Cond.instanceMethod yX5_reference ∈ yW := yW_of (List.mem_append_right _ (List.mem_of_getElem? (i := 645) rfl)) rfl
set_option maxRecDepth 20000 in
theorem wq_679 : Cond.selects RX5 yX5_reference yX5_reference ∈ yW := yW_of (List.mem_append_right _ (List.mem_of_getElem? (i := 646) rfl)) rfl
set_option maxRecDepth 20000 in
theorem wq_680 : Cond.code yX5_reference cX5_reference 4 (some .int) ∈ yW := yW_of (List.mem_append_right _ (List.mem_of_getElem? (i := 647) rfl)) rfl
set_option maxRecDepth 20000 in
theorem wq_681 : Cond.methodLink RL 66 yX5_holds ∈ yW := yW_of (List.mem_append_right _ (List.mem_of_getElem? (i := 648) rfl)) rfl
set_option maxRecDepth 20000 in
theorem wq_682 : Cond.instanceMethod yX5_holds ∈ yW := yW_of (List.mem_append_right _ (List.mem_of_getElem? (i := 649) rfl)) rfl
set_option maxRecDepth 20000 in
theorem wq_683 : Cond.selects RX5 yX5_holds yX5_holds ∈ yW := yW_of (List.mem_append_right _ (List.mem_of_getElem? (i := 650) rfl)) rfl
set_option maxRecDepth 20000 in
theorem wq_684 : Cond.code yX5_holds cX5_holds 3 (some .int) ∈ yW := yW_of (List.mem_append_right _ (List.mem_of_getElem? (i := 651) rfl)) rfl
set_option maxRecDepth 20000 in
theorem wq_685 : Cond.methodLink RL 70 yX5_count ∈ yW := yW_of (List.mem_append_right _ (List.mem_of_getElem? (i := 652) rfl)) rfl
set_option maxRecDepth 20000 in
theorem wq_686 : Cond.instanceMethod yX5_count ∈ yW := yW_of (List.mem_append_right _ (List.mem_of_getElem? (i := 653) rfl)) rfl
set_option maxRecDepth 20000 in
theorem wq_687 : Cond.selects RX5 yX5_count yX5_count ∈ yW := yW_of (List.mem_append_right _ (List.mem_of_getElem? (i := 654) rfl)) rfl
set_option maxRecDepth 20000 in
theorem wq_688 : Cond.code yX5_count cX5_count 2 (some .int) ∈ yW := yW_of (List.mem_append_right _ (List.mem_of_getElem? (i := 655) rfl)) rfl
set_option maxRecDepth 20000 in
theorem wq_689 : Cond.methodLink RL 74 yX5_talk ∈ yW := yW_of (List.mem_append_right _ (List.mem_of_getElem? (i := 656) rfl)) rfl
set_option maxRecDepth 20000 in
theorem wq_690 : Cond.instanceMethod yX5_talk ∈ yW := yW_of (List.mem_append_right _ (List.mem_of_getElem? (i := 657) rfl)) rfl
set_option maxRecDepth 20000 in
theorem wq_691 : Cond.selects RX5 yX5_talk yX5_talk ∈ yW := yW_of (List.mem_append_right _ (List.mem_of_getElem? (i := 658) rfl)) rfl
set_option maxRecDepth 20000 in
theorem wq_692 : Cond.code yX5_talk cX5_talk 2 (some .int) ∈ yW := yW_of (List.mem_append_right _ (List.mem_of_getElem? (i := 659) rfl)) rfl
set_option maxRecDepth 20000 in
theorem wq_693 : Cond.methodLink RL 79 yX5_packed ∈ yW := yW_of (List.mem_append_right _ (List.mem_of_getElem? (i := 660) rfl)) rfl
set_option maxRecDepth 20000 in
theorem wq_694 : Cond.instanceMethod yX5_packed ∈ yW := yW_of (List.mem_append_right _ (List.mem_of_getElem? (i := 661) rfl)) rfl
set_option maxRecDepth 20000 in
theorem wq_695 : Cond.selects RX5 yX5_packed yX5_packed ∈ yW := yW_of (List.mem_append_right _ (List.mem_of_getElem? (i := 662) rfl)) rfl
set_option maxRecDepth 20000 in
theorem wq_696 : Cond.code yX5_packed cX5_packed 1 (some .int) ∈ yW := yW_of (List.mem_append_right _ (List.mem_of_getElem? (i := 663) rfl)) rfl
set_option maxRecDepth 20000 in
theorem wq_697 : Cond.methodLink RL 83 yX5_packAt ∈ yW := yW_of (List.mem_append_right _ (List.mem_of_getElem? (i := 664) rfl)) rfl
set_option maxRecDepth 20000 in
theorem wq_698 : Cond.instanceMethod yX5_packAt ∈ yW := yW_of (List.mem_append_right _ (List.mem_of_getElem? (i := 665) rfl)) rfl
set_option maxRecDepth 20000 in
theorem wq_699 : Cond.selects RX5 yX5_packAt yX5_packAt ∈ yW := yW_of (List.mem_append_right _ (List.mem_of_getElem? (i := 666) rfl)) rfl
set_option maxRecDepth 20000 in
theorem wq_700 : Cond.code yX5_packAt cX5_packAt 2 (some .int) ∈ yW := yW_of (List.mem_append_right _ (List.mem_of_getElem? (i := 667) rfl)) rfl
set_option maxRecDepth 20000 in
theorem wq_701 : Cond.methodLink RL 87 yX5_base ∈ yW := yW_of (List.mem_append_right _ (List.mem_of_getElem? (i := 668) rfl)) rfl
set_option maxRecDepth 20000 in
theorem wq_702 : Cond.instanceMethod yX5_base ∈ yW := yW_of (List.mem_append_right _ (List.mem_of_getElem? (i := 669) rfl)) rfl
set_option maxRecDepth 20000 in
theorem wq_703 : Cond.selects RX5 yX5_base yX5_base ∈ yW := yW_of (List.mem_append_right _ (List.mem_of_getElem? (i := 670) rfl)) rfl
set_option maxRecDepth 20000 in
theorem wq_704 : Cond.code yX5_base cX5_base 2 (some .int) ∈ yW := yW_of (List.mem_append_right _ (List.mem_of_getElem? (i := 671) rfl)) rfl
set_option maxRecDepth 20000 in
theorem wq_705 : Cond.methodLink RL 91 yX5_weight ∈ yW := yW_of (List.mem_append_right _ (List.mem_of_getElem? (i := 672) rfl)) rfl
set_option maxRecDepth 20000 in
theorem wq_706 : Cond.instanceMethod yX5_weight ∈ yW := yW_of (List.mem_append_right _ (List.mem_of_getElem? (i := 673) rfl)) rfl
set_option maxRecDepth 20000 in
theorem wq_707 : Cond.selects RX5 yX5_weight yX5_weight ∈ yW := yW_of (List.mem_append_right _ (List.mem_of_getElem? (i := 674) rfl)) rfl
set_option maxRecDepth 20000 in
theorem wq_708 : Cond.code yX5_weight cX5_weight 3 (some .int) ∈ yW := yW_of (List.mem_append_right _ (List.mem_of_getElem? (i := 675) rfl)) rfl
set_option maxRecDepth 20000 in
theorem wq_709 : Cond.methodLink RL 95 yX5_verdict ∈ yW := yW_of (List.mem_append_right _ (List.mem_of_getElem? (i := 676) rfl)) rfl
set_option maxRecDepth 20000 in
theorem wq_710 : Cond.instanceMethod yX5_verdict ∈ yW := yW_of (List.mem_append_right _ (List.mem_of_getElem? (i := 677) rfl)) rfl
set_option maxRecDepth 20000 in
theorem wq_711 : Cond.selects RX5 yX5_verdict yX5_verdict ∈ yW := yW_of (List.mem_append_right _ (List.mem_of_getElem? (i := 678) rfl)) rfl
set_option maxRecDepth 20000 in
theorem wq_712 : Cond.code yX5_verdict cX5_verdict 2 (some .int) ∈ yW := yW_of (List.mem_append_right _ (List.mem_of_getElem? (i := 679) rfl)) rfl
abbrev wsX4_isNode : List Cond := .code yX4_isNode cX4_isNode 1 (some .boolean) :: yW
abbrev wsX4_isClient : List Cond := .code yX4_isClient cX4_isClient 1 (some .boolean) :: yW
abbrev wsX4_isOwnReference : List Cond := .code yX4_isOwnReference cX4_isOwnReference 1 (some .boolean) :: yW
abbrev wsX4_isSet : List Cond := .code yX4_isSet cX4_isSet 1 (some .boolean) :: yW
abbrev wsX4_isIn : List Cond := .code yX4_isIn cX4_isIn 3 (some .boolean) :: yW
abbrev wsX4_isChosen : List Cond := .code yX4_isChosen cX4_isChosen 2 (some .boolean) :: yW
abbrev wsX0_isUp : List Cond := .code yX0_isUp cX0_isUp 1 (some .boolean) :: yW
abbrev wsX0_armWith : List Cond := .code yX0_armWith cX0_armWith 2 none :: yW
abbrev wsX0_write : List Cond := .code yX0_write cX0_write 1 (some .boolean) :: yW
abbrev wsX0_heldSet : List Cond := .code yX0_heldSet cX0_heldSet 1 (some .long) :: yW
abbrev wsX0_keep : List Cond := .code yX0_keep cX0_keep 2 none :: yW
abbrev wsJL_bitCount : List Cond := .code yJL_bitCount cJL_bitCount 2 (some .int) :: yW
abbrev wsX0_keepOnly : List Cond := .code yX0_keepOnly cX0_keepOnly 4 (some .int) :: yW
abbrev wsX0_valueOf : List Cond := .code yX0_valueOf cX0_valueOf 2 (some .int) :: yW
abbrev wsX0_writeMissing : List Cond := .code yX0_writeMissing cX0_writeMissing 6 (some .boolean) :: yW
abbrev wsX0_hasValues : List Cond := .code yX0_hasValues cX0_hasValues 3 (some .boolean) :: yW
abbrev wsX0_commitsOf : List Cond := .code yX0_commitsOf cX0_commitsOf 5 (some .long) :: yW
abbrev wsX0_emptyLog : List Cond := .code yX0_emptyLog cX0_emptyLog 2 (some .boolean) :: yW
abbrev wsX0_carryOutLog : List Cond := .code yX0_carryOutLog cX0_carryOutLog 2 (some .boolean) :: yW
abbrev wsX0_transact : List Cond := .code yX0_transact cX0_transact 3 (some .boolean) :: yW
abbrev wsX0_restore : List Cond := .code yX0_restore cX0_restore 3 (some .int) :: yW
abbrev wsX2_isFull : List Cond := .code yX2_isFull cX2_isFull 1 (some .boolean) :: yW
abbrev wsX2_isNumber : List Cond := .code yX2_isNumber cX2_isNumber 2 (some .boolean) :: yW
abbrev wsX2_isOfKind : List Cond := .code yX2_isOfKind cX2_isOfKind 3 (some .boolean) :: yW
abbrev wsX2_reachOf : List Cond := .code yX2_reachOf cX2_reachOf 2 (some .long) :: yW
abbrev wsX2_contentOf : List Cond := .code yX2_contentOf cX2_contentOf 2 (some .int) :: yW
abbrev wsX2_partsOf : List Cond := .code yX2_partsOf cX2_partsOf 2 (some .int) :: yW
abbrev wsX2_find : List Cond := .code yX2_find cX2_find 6 (some .int) :: yW
abbrev wsX2_add : List Cond := .code yX2_add cX2_add 8 (some .int) :: yW
abbrev wsX2_reachOfAll : List Cond := .code yX2_reachOfAll cX2_reachOfAll 6 (some .long) :: yW
abbrev wsX2_eachReachesOne : List Cond := .code yX2_eachReachesOne cX2_eachReachesOne 6 (some .boolean) :: yW
abbrev wsX2_allOfKind : List Cond := .code yX2_allOfKind cX2_allOfKind 5 (some .long) :: yW
abbrev wsX3_highest : List Cond := .code yX3_highest cX3_highest 6 (some .long) :: yW
abbrev wsX3_havesSent : List Cond := .code yX3_havesSent cX3_havesSent 1 (some .int) :: yW
abbrev wsX3_havesAcknowledged : List Cond := .code yX3_havesAcknowledged cX3_havesAcknowledged 1 (some .int) :: yW
abbrev wsX3_roundsHeld : List Cond := .code yX3_roundsHeld cX3_roundsHeld 1 (some .int) :: yW
abbrev wsX3_run : List Cond := .code yX3_run cX3_run 14 (some .long) :: yW
abbrev wsX1_memberSet : List Cond := .code yX1_memberSet cX1_memberSet 1 (some .long) :: yW
abbrev wsX1_length : List Cond := .code yX1_length cX1_length 1 (some .int) :: yW
abbrev wsX1_totalWeight : List Cond := .code yX1_totalWeight cX1_totalWeight 1 (some .int) :: yW
abbrev wsX1_isPlace : List Cond := .code yX1_isPlace cX1_isPlace 2 (some .boolean) :: yW
abbrev wsX1_objectAt : List Cond := .code yX1_objectAt cX1_objectAt 2 (some .int) :: yW
abbrev wsX1_baseAt : List Cond := .code yX1_baseAt cX1_baseAt 2 (some .int) :: yW
abbrev wsX1_differingDigits : List Cond := .code yX1_differingDigits cX1_differingDigits 5 (some .int) :: yW
abbrev wsX1_chooseBase : List Cond := .code yX1_chooseBase cX1_chooseBase 7 (some .int) :: yW
abbrev wsX1_placeKind : List Cond := .code yX1_placeKind cX1_placeKind 5 none :: yW
abbrev wsX1_fill : List Cond := .code yX1_fill cX1_fill 4 none :: yW
abbrev wsX4_holdsKind : List Cond := .code yX4_holdsKind cX4_holdsKind 4 (some .boolean) :: yW
abbrev wsX4_isEntry : List Cond := .code yX4_isEntry cX4_isEntry 3 (some .boolean) :: yW
abbrev wsX4_isCommitOrAbsent : List Cond := .code yX4_isCommitOrAbsent cX4_isCommitOrAbsent 3 (some .boolean) :: yW
abbrev wsX4_writeObject : List Cond := .code yX4_writeObject cX4_writeObject 7 (some .int) :: yW
abbrev wsX4_clearTargets : List Cond := .code yX4_clearTargets cX4_clearTargets 2 none :: yW
abbrev wsX4_aimAtOne : List Cond := .code yX4_aimAtOne cX4_aimAtOne 3 none :: yW
abbrev wsX4_aimAtValues : List Cond := .code yX4_aimAtValues cX4_aimAtValues 5 none :: yW
abbrev wsX4_verdictOn : List Cond := .code yX4_verdictOn cX4_verdictOn 5 (some .int) :: yW
abbrev wsX4_judge : List Cond := .code yX4_judge cX4_judge 6 (some .boolean) :: yW
abbrev wsX4_carryOutPush : List Cond := .code yX4_carryOutPush cX4_carryOutPush 4 (some .boolean) :: yW
abbrev wsX4_blob : List Cond := .code yX4_blob cX4_blob 3 (some .int) :: yW
abbrev wsX4_tree : List Cond := .code yX4_tree cX4_tree 5 (some .int) :: yW
abbrev wsX4_commit : List Cond := .code yX4_commit cX4_commit 8 (some .int) :: yW
abbrev wsX4_point : List Cond := .code yX4_point cX4_point 5 (some .int) :: yW
abbrev wsX4_fetch : List Cond := .code yX4_fetch cX4_fetch 11 (some .int) :: yW
abbrev wsX4_push : List Cond := .code yX4_push cX4_push 7 (some .int) :: yW
abbrev wsX4_arm : List Cond := .code yX4_arm cX4_arm 3 (some .boolean) :: yW
abbrev wsX4_recover : List Cond := .code yX4_recover cX4_recover 2 (some .int) :: yW
abbrev wsX4_collect : List Cond := .code yX4_collect cX4_collect 3 (some .int) :: yW
abbrev wsX4_up : List Cond := .code yX4_up cX4_up 2 (some .boolean) :: yW
abbrev wsX4_reference : List Cond := .code yX4_reference cX4_reference 4 (some .int) :: yW
abbrev wsX4_holds : List Cond := .code yX4_holds cX4_holds 3 (some .int) :: yW
abbrev wsX4_count : List Cond := .code yX4_count cX4_count 2 (some .int) :: yW
abbrev wsX4_talk : List Cond := .code yX4_talk cX4_talk 2 (some .int) :: yW
abbrev wsX4_packed : List Cond := .code yX4_packed cX4_packed 1 (some .int) :: yW
abbrev wsX4_packAt : List Cond := .code yX4_packAt cX4_packAt 2 (some .int) :: yW
abbrev wsX4_base : List Cond := .code yX4_base cX4_base 2 (some .int) :: yW
abbrev wsX4_weight : List Cond := .code yX4_weight cX4_weight 1 (some .int) :: yW
abbrev wsX4_verdict : List Cond := .code yX4_verdict cX4_verdict 2 (some .int) :: yW
abbrev wsX5_isNode : List Cond := .code yX5_isNode cX5_isNode 1 (some .boolean) :: yW
abbrev wsX5_many : List Cond := .code yX5_many cX5_many 4 (some .int) :: yW
abbrev wsX5_has : List Cond := .code yX5_has cX5_has 3 (some .boolean) :: yW
abbrev wsX5_reach : List Cond := .code yX5_reach cX5_reach 6 (some .long) :: yW
abbrev wsX5_tips : List Cond := .code yX5_tips cX5_tips 7 (some .long) :: yW
abbrev wsX5_write : List Cond := .code yX5_write cX5_write 2 (some .boolean) :: yW
abbrev wsX5_store : List Cond := .code yX5_store cX5_store 5 (some .boolean) :: yW
abbrev wsX5_wish : List Cond := .code yX5_wish cX5_wish 3 none :: yW
abbrev wsX5_wipe : List Cond := .code yX5_wipe cX5_wipe 2 (some .boolean) :: yW
abbrev wsX5_replay : List Cond := .code yX5_replay cX5_replay 3 (some .boolean) :: yW
abbrev wsX5_transact : List Cond := .code yX5_transact cX5_transact 4 (some .boolean) :: yW
abbrev wsX5_make : List Cond := .code yX5_make cX5_make 7 (some .int) :: yW
abbrev wsX5_entry : List Cond := .code yX5_entry cX5_entry 3 (some .boolean) :: yW
abbrev wsX5_blob : List Cond := .code yX5_blob cX5_blob 3 (some .int) :: yW
abbrev wsX5_tree : List Cond := .code yX5_tree cX5_tree 4 (some .int) :: yW
abbrev wsX5_commit : List Cond := .code yX5_commit cX5_commit 7 (some .int) :: yW
abbrev wsX5_point : List Cond := .code yX5_point cX5_point 4 (some .int) :: yW
abbrev wsX5_place : List Cond := .code yX5_place cX5_place 6 none :: yW
abbrev wsX5_pack : List Cond := .code yX5_pack cX5_pack 5 none :: yW
abbrev wsX5_allReach : List Cond := .code yX5_allReach cX5_allReach 6 (some .boolean) :: yW
abbrev wsX5_converse : List Cond := .code yX5_converse cX5_converse 15 (some .long) :: yW
abbrev wsX5_fetch : List Cond := .code yX5_fetch cX5_fetch 9 (some .int) :: yW
abbrev wsX5_judge : List Cond := .code yX5_judge cX5_judge 4 (some .int) :: yW
abbrev wsX5_carry : List Cond := .code yX5_carry cX5_carry 12 (some .boolean) :: yW
abbrev wsX5_push : List Cond := .code yX5_push cX5_push 5 (some .int) :: yW
abbrev wsX5_arm : List Cond := .code yX5_arm cX5_arm 3 (some .boolean) :: yW
abbrev wsX5_recover : List Cond := .code yX5_recover cX5_recover 4 (some .int) :: yW
abbrev wsX5_collect : List Cond := .code yX5_collect cX5_collect 5 (some .int) :: yW
abbrev wsX5_up : List Cond := .code yX5_up cX5_up 2 (some .boolean) :: yW
abbrev wsX5_reference : List Cond := .code yX5_reference cX5_reference 4 (some .int) :: yW
abbrev wsX5_holds : List Cond := .code yX5_holds cX5_holds 3 (some .int) :: yW
abbrev wsX5_count : List Cond := .code yX5_count cX5_count 2 (some .int) :: yW
abbrev wsX5_talk : List Cond := .code yX5_talk cX5_talk 2 (some .int) :: yW
abbrev wsX5_packed : List Cond := .code yX5_packed cX5_packed 1 (some .int) :: yW
abbrev wsX5_packAt : List Cond := .code yX5_packAt cX5_packAt 2 (some .int) :: yW
abbrev wsX5_base : List Cond := .code yX5_base cX5_base 2 (some .int) :: yW
abbrev wsX5_weight : List Cond := .code yX5_weight cX5_weight 3 (some .int) :: yW
abbrev wsX5_verdict : List Cond := .code yX5_verdict cX5_verdict 2 (some .int) :: yW
abbrev wsX0_init : List Cond := .code yX0_init cX0_init 2 none :: yW
abbrev wsX1_init : List Cond := .code yX1_init cX1_init 1 none :: yW
abbrev wsX2_init : List Cond := .code yX2_init cX2_init 1 none :: yW
abbrev wsX3_init : List Cond := .code yX3_init cX3_init 1 none :: yW
abbrev wsX4_init : List Cond := .code yX4_init cX4_init 2 none :: yW
abbrev wsX5_init : List Cond := .code yX5_init cX5_init 1 none :: yW
set_option maxRecDepth 20000 in
theorem inX0 : ∀ w ∈ u_ws RX0 TX0 7, w ∈ yW := by
  intro w hw
  obtain ⟨j, hj, rfl⟩ := List.mem_map.mp hw
  have hj := List.mem_range.mp hj
  rcases (show j = 0 ∨ j = 1 ∨ j = 2 ∨ j = 3 ∨ j = 4 ∨ j = 5 ∨ j = 6 by omega) with rfl | rfl | rfl | rfl | rfl | rfl | rfl
  · exact yW_of (List.mem_append_right _ (List.mem_of_getElem? (i := 57) rfl)) rfl
  · exact yW_of (List.mem_append_right _ (List.mem_of_getElem? (i := 59) rfl)) rfl
  · exact yW_of (List.mem_append_right _ (List.mem_of_getElem? (i := 61) rfl)) rfl
  · exact yW_of (List.mem_append_right _ (List.mem_of_getElem? (i := 63) rfl)) rfl
  · exact yW_of (List.mem_append_right _ (List.mem_of_getElem? (i := 65) rfl)) rfl
  · exact yW_of (List.mem_append_right _ (List.mem_of_getElem? (i := 67) rfl)) rfl
  · exact yW_of (List.mem_append_right _ (List.mem_of_getElem? (i := 69) rfl)) rfl
set_option maxRecDepth 20000 in
theorem inX1 : ∀ w ∈ u_ws RX1 TX1 6, w ∈ yW := by
  intro w hw
  obtain ⟨j, hj, rfl⟩ := List.mem_map.mp hw
  have hj := List.mem_range.mp hj
  rcases (show j = 0 ∨ j = 1 ∨ j = 2 ∨ j = 3 ∨ j = 4 ∨ j = 5 by omega) with rfl | rfl | rfl | rfl | rfl | rfl
  · exact yW_of (List.mem_append_right _ (List.mem_of_getElem? (i := 100) rfl)) rfl
  · exact yW_of (List.mem_append_right _ (List.mem_of_getElem? (i := 102) rfl)) rfl
  · exact yW_of (List.mem_append_right _ (List.mem_of_getElem? (i := 104) rfl)) rfl
  · exact yW_of (List.mem_append_right _ (List.mem_of_getElem? (i := 106) rfl)) rfl
  · exact yW_of (List.mem_append_right _ (List.mem_of_getElem? (i := 108) rfl)) rfl
  · exact yW_of (List.mem_append_right _ (List.mem_of_getElem? (i := 110) rfl)) rfl
set_option maxRecDepth 20000 in
theorem inX2 : ∀ w ∈ u_ws RX2 TX2 6, w ∈ yW := by
  intro w hw
  obtain ⟨j, hj, rfl⟩ := List.mem_map.mp hw
  have hj := List.mem_range.mp hj
  rcases (show j = 0 ∨ j = 1 ∨ j = 2 ∨ j = 3 ∨ j = 4 ∨ j = 5 by omega) with rfl | rfl | rfl | rfl | rfl | rfl
  · exact yW_of (List.mem_append_right _ (List.mem_of_getElem? (i := 28) rfl)) rfl
  · exact yW_of (List.mem_append_right _ (List.mem_of_getElem? (i := 30) rfl)) rfl
  · exact yW_of (List.mem_append_right _ (List.mem_of_getElem? (i := 32) rfl)) rfl
  · exact yW_of (List.mem_append_right _ (List.mem_of_getElem? (i := 34) rfl)) rfl
  · exact yW_of (List.mem_append_right _ (List.mem_of_getElem? (i := 36) rfl)) rfl
  · exact yW_of (List.mem_append_right _ (List.mem_of_getElem? (i := 38) rfl)) rfl
set_option maxRecDepth 20000 in
theorem inX3 : ∀ w ∈ u_ws RX3 TX3 3, w ∈ yW := by
  intro w hw
  obtain ⟨j, hj, rfl⟩ := List.mem_map.mp hw
  have hj := List.mem_range.mp hj
  rcases (show j = 0 ∨ j = 1 ∨ j = 2 by omega) with rfl | rfl | rfl
  · exact yW_of (List.mem_append_right _ (List.mem_of_getElem? (i := 81) rfl)) rfl
  · exact yW_of (List.mem_append_right _ (List.mem_of_getElem? (i := 83) rfl)) rfl
  · exact yW_of (List.mem_append_right _ (List.mem_of_getElem? (i := 85) rfl)) rfl
set_option maxRecDepth 20000 in
theorem inX4 : ∀ w ∈ u_ws RX4 TX4 6, w ∈ yW := by
  intro w hw
  obtain ⟨j, hj, rfl⟩ := List.mem_map.mp hw
  have hj := List.mem_range.mp hj
  rcases (show j = 0 ∨ j = 1 ∨ j = 2 ∨ j = 3 ∨ j = 4 ∨ j = 5 by omega) with rfl | rfl | rfl | rfl | rfl | rfl
  · exact yW_of (List.mem_append_right _ (List.mem_of_getElem? (i := 119) rfl)) rfl
  · exact yW_of (List.mem_append_right _ (List.mem_of_getElem? (i := 121) rfl)) rfl
  · exact yW_of (List.mem_append_right _ (List.mem_of_getElem? (i := 123) rfl)) rfl
  · exact yW_of (List.mem_append_right _ (List.mem_of_getElem? (i := 125) rfl)) rfl
  · exact yW_of (List.mem_append_right _ (List.mem_of_getElem? (i := 127) rfl)) rfl
  · exact yW_of (List.mem_append_right _ (List.mem_of_getElem? (i := 129) rfl)) rfl
set_option maxRecDepth 20000 in
theorem inX5 : ∀ w ∈ u_ws RX5 TX5 25, w ∈ yW := by
  intro w hw
  obtain ⟨j, hj, rfl⟩ := List.mem_map.mp hw
  have hj := List.mem_range.mp hj
  rcases (show j = 0 ∨ j = 1 ∨ j = 2 ∨ j = 3 ∨ j = 4 ∨ j = 5 ∨ j = 6 ∨ j = 7 ∨ j = 8 ∨ j = 9 ∨ j = 10 ∨ j = 11 ∨ j = 12 ∨ j = 13 ∨ j = 14 ∨ j = 15 ∨ j = 16 ∨ j = 17 ∨ j = 18 ∨ j = 19 ∨ j = 20 ∨ j = 21 ∨ j = 22 ∨ j = 23 ∨ j = 24 by omega) with rfl | rfl | rfl | rfl | rfl | rfl | rfl | rfl | rfl | rfl | rfl | rfl | rfl | rfl | rfl | rfl | rfl | rfl | rfl | rfl | rfl | rfl | rfl | rfl | rfl
  · exact yW_of (List.mem_append_right _ (List.mem_of_getElem? (i := 477) rfl)) rfl
  · exact yW_of (List.mem_append_right _ (List.mem_of_getElem? (i := 479) rfl)) rfl
  · exact yW_of (List.mem_append_right _ (List.mem_of_getElem? (i := 481) rfl)) rfl
  · exact yW_of (List.mem_append_right _ (List.mem_of_getElem? (i := 483) rfl)) rfl
  · exact yW_of (List.mem_append_right _ (List.mem_of_getElem? (i := 485) rfl)) rfl
  · exact yW_of (List.mem_append_right _ (List.mem_of_getElem? (i := 487) rfl)) rfl
  · exact yW_of (List.mem_append_right _ (List.mem_of_getElem? (i := 489) rfl)) rfl
  · exact yW_of (List.mem_append_right _ (List.mem_of_getElem? (i := 491) rfl)) rfl
  · exact yW_of (List.mem_append_right _ (List.mem_of_getElem? (i := 493) rfl)) rfl
  · exact yW_of (List.mem_append_right _ (List.mem_of_getElem? (i := 495) rfl)) rfl
  · exact yW_of (List.mem_append_right _ (List.mem_of_getElem? (i := 497) rfl)) rfl
  · exact yW_of (List.mem_append_right _ (List.mem_of_getElem? (i := 499) rfl)) rfl
  · exact yW_of (List.mem_append_right _ (List.mem_of_getElem? (i := 501) rfl)) rfl
  · exact yW_of (List.mem_append_right _ (List.mem_of_getElem? (i := 503) rfl)) rfl
  · exact yW_of (List.mem_append_right _ (List.mem_of_getElem? (i := 505) rfl)) rfl
  · exact yW_of (List.mem_append_right _ (List.mem_of_getElem? (i := 507) rfl)) rfl
  · exact yW_of (List.mem_append_right _ (List.mem_of_getElem? (i := 509) rfl)) rfl
  · exact yW_of (List.mem_append_right _ (List.mem_of_getElem? (i := 511) rfl)) rfl
  · exact yW_of (List.mem_append_right _ (List.mem_of_getElem? (i := 513) rfl)) rfl
  · exact yW_of (List.mem_append_right _ (List.mem_of_getElem? (i := 515) rfl)) rfl
  · exact yW_of (List.mem_append_right _ (List.mem_of_getElem? (i := 517) rfl)) rfl
  · exact yW_of (List.mem_append_right _ (List.mem_of_getElem? (i := 519) rfl)) rfl
  · exact yW_of (List.mem_append_right _ (List.mem_of_getElem? (i := 521) rfl)) rfl
  · exact yW_of (List.mem_append_right _ (List.mem_of_getElem? (i := 523) rfl)) rfl
  · exact yW_of (List.mem_append_right _ (List.mem_of_getElem? (i := 525) rfl)) rfl
