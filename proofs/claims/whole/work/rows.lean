section
-- ===== PART A: goes FIRST, ahead of the names: the tables' words, and 'selects' of the private methods out of them =====
/-- a private method of a class that the tables say can be made, by its rows of tables_1 -/
def lw_okq (q : MethodName × Nat) : Prop := (q.1.cls ≠ "java/lang/invoke/MethodHandle" ∧ q.1.cls ≠ "java/lang/invoke/VarHandle") ∧ Cond.instantiable q.1.cls q.2 ∈ tables_1 ∧ Cond.privateMethod q.1 ∈ tables_1 ∧ Cond.instanceMethod q.1 ∈ tables_1
theorem lw_p0 : lw_okq (⟨"PackExchange", "writeObject", "(LPackExchange$Node;IIII)I"⟩, 6) := ⟨⟨by decide +kernel, by decide +kernel⟩, List.mem_of_getElem? (i := 9) (by decide +kernel), List.mem_of_getElem? (i := 144) (by decide +kernel), List.mem_of_getElem? (i := 145) (by decide +kernel)⟩
theorem lw_p1 : lw_okq (⟨"PackExchange$Store", "isNumber", "(I)Z"⟩, 6) := ⟨⟨by decide +kernel, by decide +kernel⟩, List.mem_of_getElem? (i := 17) (by decide +kernel), List.mem_of_getElem? (i := 176) (by decide +kernel), List.mem_of_getElem? (i := 177) (by decide +kernel)⟩
theorem lw_p2 : lw_okq (⟨"PackExchange", "isEntry", "(LPackExchange$Node;I)Z"⟩, 6) := ⟨⟨by decide +kernel, by decide +kernel⟩, List.mem_of_getElem? (i := 9) (by decide +kernel), List.mem_of_getElem? (i := 188) (by decide +kernel), List.mem_of_getElem? (i := 189) (by decide +kernel)⟩
theorem lw_p3 : lw_okq (⟨"PackExchange", "holdsKind", "(LPackExchange$Node;II)Z"⟩, 6) := ⟨⟨by decide +kernel, by decide +kernel⟩, List.mem_of_getElem? (i := 9) (by decide +kernel), List.mem_of_getElem? (i := 192) (by decide +kernel), List.mem_of_getElem? (i := 193) (by decide +kernel)⟩
theorem lw_p4 : lw_okq (⟨"PackExchange", "isCommitOrAbsent", "(LPackExchange$Node;I)Z"⟩, 6) := ⟨⟨by decide +kernel, by decide +kernel⟩, List.mem_of_getElem? (i := 9) (by decide +kernel), List.mem_of_getElem? (i := 211) (by decide +kernel), List.mem_of_getElem? (i := 212) (by decide +kernel)⟩
theorem lw_p5 : lw_okq (⟨"PackExchange", "aimAtOne", "(II)V"⟩, 6) := ⟨⟨by decide +kernel, by decide +kernel⟩, List.mem_of_getElem? (i := 9) (by decide +kernel), List.mem_of_getElem? (i := 215) (by decide +kernel), List.mem_of_getElem? (i := 216) (by decide +kernel)⟩
theorem lw_p6 : lw_okq (⟨"PackExchange", "clearTargets", "()V"⟩, 6) := ⟨⟨by decide +kernel, by decide +kernel⟩, List.mem_of_getElem? (i := 9) (by decide +kernel), List.mem_of_getElem? (i := 219) (by decide +kernel), List.mem_of_getElem? (i := 220) (by decide +kernel)⟩
theorem lw_p7 : lw_okq (⟨"PackExchange$Node", "carryOutLog", "()Z"⟩, 7) := ⟨⟨by decide +kernel, by decide +kernel⟩, List.mem_of_getElem? (i := 45) (by decide +kernel), List.mem_of_getElem? (i := 228) (by decide +kernel), List.mem_of_getElem? (i := 229) (by decide +kernel)⟩
theorem lw_p8 : lw_okq (⟨"PackExchange$Node", "emptyLog", "()Z"⟩, 7) := ⟨⟨by decide +kernel, by decide +kernel⟩, List.mem_of_getElem? (i := 45) (by decide +kernel), List.mem_of_getElem? (i := 232) (by decide +kernel), List.mem_of_getElem? (i := 233) (by decide +kernel)⟩
theorem lw_p9 : lw_okq (⟨"PackExchange$Pack", "placeKind", "(LPackExchange$Store;I)V"⟩, 6) := ⟨⟨by decide +kernel, by decide +kernel⟩, List.mem_of_getElem? (i := 89) (by decide +kernel), List.mem_of_getElem? (i := 291) (by decide +kernel), List.mem_of_getElem? (i := 292) (by decide +kernel)⟩
theorem lw_p10 : lw_okq (⟨"PackExchange$Pack", "chooseBase", "(LPackExchange$Store;I)I"⟩, 6) := ⟨⟨by decide +kernel, by decide +kernel⟩, List.mem_of_getElem? (i := 89) (by decide +kernel), List.mem_of_getElem? (i := 297) (by decide +kernel), List.mem_of_getElem? (i := 298) (by decide +kernel)⟩
theorem lw_p11 : lw_okq (⟨"PackExchange", "aimAtValues", "(LPackExchange$Node;II)V"⟩, 6) := ⟨⟨by decide +kernel, by decide +kernel⟩, List.mem_of_getElem? (i := 9) (by decide +kernel), List.mem_of_getElem? (i := 323) (by decide +kernel), List.mem_of_getElem? (i := 324) (by decide +kernel)⟩
theorem lw_p12 : lw_okq (⟨"PackExchange", "judge", "(LPackExchange$Node;LPackExchange$Node;I)Z"⟩, 6) := ⟨⟨by decide +kernel, by decide +kernel⟩, List.mem_of_getElem? (i := 9) (by decide +kernel), List.mem_of_getElem? (i := 340) (by decide +kernel), List.mem_of_getElem? (i := 341) (by decide +kernel)⟩
theorem lw_p13 : lw_okq (⟨"PackExchange", "verdictOn", "(LPackExchange$Node;LPackExchange$Node;I)I"⟩, 6) := ⟨⟨by decide +kernel, by decide +kernel⟩, List.mem_of_getElem? (i := 9) (by decide +kernel), List.mem_of_getElem? (i := 344) (by decide +kernel), List.mem_of_getElem? (i := 345) (by decide +kernel)⟩
theorem lw_p14 : lw_okq (⟨"PackExchange", "carryOutPush", "(LPackExchange$Node;LPackExchange$Node;I)Z"⟩, 6) := ⟨⟨by decide +kernel, by decide +kernel⟩, List.mem_of_getElem? (i := 9) (by decide +kernel), List.mem_of_getElem? (i := 349) (by decide +kernel), List.mem_of_getElem? (i := 350) (by decide +kernel)⟩
theorem lw_p15 : lw_okq (⟨"PackExchange$Pack", "isPlace", "(I)Z"⟩, 6) := ⟨⟨by decide +kernel, by decide +kernel⟩, List.mem_of_getElem? (i := 89) (by decide +kernel), List.mem_of_getElem? (i := 423) (by decide +kernel), List.mem_of_getElem? (i := 424) (by decide +kernel)⟩
def lw_privs_1 : List (MethodName × Nat) := [(⟨"PackExchange", "writeObject", "(LPackExchange$Node;IIII)I"⟩, 6), (⟨"PackExchange$Store", "isNumber", "(I)Z"⟩, 6), (⟨"PackExchange", "isEntry", "(LPackExchange$Node;I)Z"⟩, 6), (⟨"PackExchange", "holdsKind", "(LPackExchange$Node;II)Z"⟩, 6), (⟨"PackExchange", "isCommitOrAbsent", "(LPackExchange$Node;I)Z"⟩, 6), (⟨"PackExchange", "aimAtOne", "(II)V"⟩, 6), (⟨"PackExchange", "clearTargets", "()V"⟩, 6), (⟨"PackExchange$Node", "carryOutLog", "()Z"⟩, 7), (⟨"PackExchange$Node", "emptyLog", "()Z"⟩, 7), (⟨"PackExchange$Pack", "placeKind", "(LPackExchange$Store;I)V"⟩, 6), (⟨"PackExchange$Pack", "chooseBase", "(LPackExchange$Store;I)I"⟩, 6), (⟨"PackExchange", "aimAtValues", "(LPackExchange$Node;II)V"⟩, 6), (⟨"PackExchange", "judge", "(LPackExchange$Node;LPackExchange$Node;I)Z"⟩, 6), (⟨"PackExchange", "verdictOn", "(LPackExchange$Node;LPackExchange$Node;I)I"⟩, 6), (⟨"PackExchange", "carryOutPush", "(LPackExchange$Node;LPackExchange$Node;I)Z"⟩, 6), (⟨"PackExchange$Pack", "isPlace", "(I)Z"⟩, 6)]
theorem lw_r1 : ∀ q ∈ lw_privs_1, lw_okq q := List.forall_mem_cons.mpr ⟨lw_p0, List.forall_mem_cons.mpr ⟨lw_p1, List.forall_mem_cons.mpr ⟨lw_p2, List.forall_mem_cons.mpr ⟨lw_p3, List.forall_mem_cons.mpr ⟨lw_p4, List.forall_mem_cons.mpr ⟨lw_p5, List.forall_mem_cons.mpr ⟨lw_p6, List.forall_mem_cons.mpr ⟨lw_p7, List.forall_mem_cons.mpr ⟨lw_p8, List.forall_mem_cons.mpr ⟨lw_p9, List.forall_mem_cons.mpr ⟨lw_p10, List.forall_mem_cons.mpr ⟨lw_p11, List.forall_mem_cons.mpr ⟨lw_p12, List.forall_mem_cons.mpr ⟨lw_p13, List.forall_mem_cons.mpr ⟨lw_p14, List.forall_mem_cons.mpr ⟨lw_p15, fun _ h => absurd h List.not_mem_nil⟩⟩⟩⟩⟩⟩⟩⟩⟩⟩⟩⟩⟩⟩⟩⟩
theorem lw_p16 : lw_okq (⟨"PackExchangeModel", "make", "(IIIII)I"⟩, 25) := ⟨⟨by decide +kernel, by decide +kernel⟩, List.mem_of_getElem? (i := 447) (by decide +kernel), List.mem_of_getElem? (i := 537) (by decide +kernel), List.mem_of_getElem? (i := 538) (by decide +kernel)⟩
theorem lw_p17 : lw_okq (⟨"PackExchangeModel", "has", "(II)Z"⟩, 25) := ⟨⟨by decide +kernel, by decide +kernel⟩, List.mem_of_getElem? (i := 447) (by decide +kernel), List.mem_of_getElem? (i := 541) (by decide +kernel), List.mem_of_getElem? (i := 542) (by decide +kernel)⟩
theorem lw_p18 : lw_okq (⟨"PackExchangeModel", "write", "(I)Z"⟩, 25) := ⟨⟨by decide +kernel, by decide +kernel⟩, List.mem_of_getElem? (i := 447) (by decide +kernel), List.mem_of_getElem? (i := 545) (by decide +kernel), List.mem_of_getElem? (i := 546) (by decide +kernel)⟩
theorem lw_p19 : lw_okq (⟨"PackExchangeModel", "entry", "(II)Z"⟩, 25) := ⟨⟨by decide +kernel, by decide +kernel⟩, List.mem_of_getElem? (i := 447) (by decide +kernel), List.mem_of_getElem? (i := 553) (by decide +kernel), List.mem_of_getElem? (i := 554) (by decide +kernel)⟩
theorem lw_p20 : lw_okq (⟨"PackExchangeModel", "wish", "(II)V"⟩, 25) := ⟨⟨by decide +kernel, by decide +kernel⟩, List.mem_of_getElem? (i := 447) (by decide +kernel), List.mem_of_getElem? (i := 561) (by decide +kernel), List.mem_of_getElem? (i := 562) (by decide +kernel)⟩
theorem lw_p21 : lw_okq (⟨"PackExchangeModel", "transact", "(I)Z"⟩, 25) := ⟨⟨by decide +kernel, by decide +kernel⟩, List.mem_of_getElem? (i := 447) (by decide +kernel), List.mem_of_getElem? (i := 565) (by decide +kernel), List.mem_of_getElem? (i := 566) (by decide +kernel)⟩
theorem lw_p22 : lw_okq (⟨"PackExchangeModel", "replay", "(I)Z"⟩, 25) := ⟨⟨by decide +kernel, by decide +kernel⟩, List.mem_of_getElem? (i := 447) (by decide +kernel), List.mem_of_getElem? (i := 569) (by decide +kernel), List.mem_of_getElem? (i := 570) (by decide +kernel)⟩
theorem lw_p23 : lw_okq (⟨"PackExchangeModel", "wipe", "(I)Z"⟩, 25) := ⟨⟨by decide +kernel, by decide +kernel⟩, List.mem_of_getElem? (i := 447) (by decide +kernel), List.mem_of_getElem? (i := 573) (by decide +kernel), List.mem_of_getElem? (i := 574) (by decide +kernel)⟩
theorem lw_p24 : lw_okq (⟨"PackExchangeModel", "converse", "(IJ)J"⟩, 25) := ⟨⟨by decide +kernel, by decide +kernel⟩, List.mem_of_getElem? (i := 447) (by decide +kernel), List.mem_of_getElem? (i := 585) (by decide +kernel), List.mem_of_getElem? (i := 586) (by decide +kernel)⟩
theorem lw_p25 : lw_okq (⟨"PackExchangeModel", "tips", "(III)J"⟩, 25) := ⟨⟨by decide +kernel, by decide +kernel⟩, List.mem_of_getElem? (i := 447) (by decide +kernel), List.mem_of_getElem? (i := 589) (by decide +kernel), List.mem_of_getElem? (i := 590) (by decide +kernel)⟩
theorem lw_p26 : lw_okq (⟨"PackExchangeModel", "reach", "(J)J"⟩, 25) := ⟨⟨by decide +kernel, by decide +kernel⟩, List.mem_of_getElem? (i := 447) (by decide +kernel), List.mem_of_getElem? (i := 593) (by decide +kernel), List.mem_of_getElem? (i := 594) (by decide +kernel)⟩
theorem lw_p27 : lw_okq (⟨"PackExchangeModel", "allReach", "(JJ)Z"⟩, 25) := ⟨⟨by decide +kernel, by decide +kernel⟩, List.mem_of_getElem? (i := 447) (by decide +kernel), List.mem_of_getElem? (i := 601) (by decide +kernel), List.mem_of_getElem? (i := 602) (by decide +kernel)⟩
theorem lw_p28 : lw_okq (⟨"PackExchangeModel", "pack", "(J)V"⟩, 25) := ⟨⟨by decide +kernel, by decide +kernel⟩, List.mem_of_getElem? (i := 447) (by decide +kernel), List.mem_of_getElem? (i := 605) (by decide +kernel), List.mem_of_getElem? (i := 606) (by decide +kernel)⟩
theorem lw_p29 : lw_okq (⟨"PackExchangeModel", "place", "(I)V"⟩, 25) := ⟨⟨by decide +kernel, by decide +kernel⟩, List.mem_of_getElem? (i := 447) (by decide +kernel), List.mem_of_getElem? (i := 609) (by decide +kernel), List.mem_of_getElem? (i := 610) (by decide +kernel)⟩
theorem lw_p30 : lw_okq (⟨"PackExchangeModel", "store", "(IJ)Z"⟩, 25) := ⟨⟨by decide +kernel, by decide +kernel⟩, List.mem_of_getElem? (i := 447) (by decide +kernel), List.mem_of_getElem? (i := 613) (by decide +kernel), List.mem_of_getElem? (i := 614) (by decide +kernel)⟩
theorem lw_p31 : lw_okq (⟨"PackExchangeModel", "judge", "(III)I"⟩, 25) := ⟨⟨by decide +kernel, by decide +kernel⟩, List.mem_of_getElem? (i := 447) (by decide +kernel), List.mem_of_getElem? (i := 621) (by decide +kernel), List.mem_of_getElem? (i := 622) (by decide +kernel)⟩
def lw_privs_2 : List (MethodName × Nat) := [(⟨"PackExchangeModel", "make", "(IIIII)I"⟩, 25), (⟨"PackExchangeModel", "has", "(II)Z"⟩, 25), (⟨"PackExchangeModel", "write", "(I)Z"⟩, 25), (⟨"PackExchangeModel", "entry", "(II)Z"⟩, 25), (⟨"PackExchangeModel", "wish", "(II)V"⟩, 25), (⟨"PackExchangeModel", "transact", "(I)Z"⟩, 25), (⟨"PackExchangeModel", "replay", "(I)Z"⟩, 25), (⟨"PackExchangeModel", "wipe", "(I)Z"⟩, 25), (⟨"PackExchangeModel", "converse", "(IJ)J"⟩, 25), (⟨"PackExchangeModel", "tips", "(III)J"⟩, 25), (⟨"PackExchangeModel", "reach", "(J)J"⟩, 25), (⟨"PackExchangeModel", "allReach", "(JJ)Z"⟩, 25), (⟨"PackExchangeModel", "pack", "(J)V"⟩, 25), (⟨"PackExchangeModel", "place", "(I)V"⟩, 25), (⟨"PackExchangeModel", "store", "(IJ)Z"⟩, 25), (⟨"PackExchangeModel", "judge", "(III)I"⟩, 25)]
theorem lw_r2 : ∀ q ∈ lw_privs_2, lw_okq q := List.forall_mem_cons.mpr ⟨lw_p16, List.forall_mem_cons.mpr ⟨lw_p17, List.forall_mem_cons.mpr ⟨lw_p18, List.forall_mem_cons.mpr ⟨lw_p19, List.forall_mem_cons.mpr ⟨lw_p20, List.forall_mem_cons.mpr ⟨lw_p21, List.forall_mem_cons.mpr ⟨lw_p22, List.forall_mem_cons.mpr ⟨lw_p23, List.forall_mem_cons.mpr ⟨lw_p24, List.forall_mem_cons.mpr ⟨lw_p25, List.forall_mem_cons.mpr ⟨lw_p26, List.forall_mem_cons.mpr ⟨lw_p27, List.forall_mem_cons.mpr ⟨lw_p28, List.forall_mem_cons.mpr ⟨lw_p29, List.forall_mem_cons.mpr ⟨lw_p30, List.forall_mem_cons.mpr ⟨lw_p31, fun _ h => absurd h List.not_mem_nil⟩⟩⟩⟩⟩⟩⟩⟩⟩⟩⟩⟩⟩⟩⟩⟩
theorem lw_p32 : lw_okq (⟨"PackExchangeModel", "carry", "(II)Z"⟩, 25) := ⟨⟨by decide +kernel, by decide +kernel⟩, List.mem_of_getElem? (i := 447) (by decide +kernel), List.mem_of_getElem? (i := 625) (by decide +kernel), List.mem_of_getElem? (i := 626) (by decide +kernel)⟩
def lw_privs_3 : List (MethodName × Nat) := [(⟨"PackExchangeModel", "carry", "(II)Z"⟩, 25)]
theorem lw_r3 : ∀ q ∈ lw_privs_3, lw_okq q := List.forall_mem_cons.mpr ⟨lw_p32, fun _ h => absurd h List.not_mem_nil⟩
def lw_privs : List (MethodName × Nat) := lw_privs_1 ++ (lw_privs_2 ++ (lw_privs_3))
def lw_tbl : List Cond := k2_sels lw_privs ++ tables_1
theorem lw_privs_ok : ∀ q ∈ lw_privs, lw_okq q := by
  show ∀ q ∈ lw_privs_1 ++ (lw_privs_2 ++ (lw_privs_3)), lw_okq q
  exact List.forall_mem_append.mpr ⟨lw_r1, List.forall_mem_append.mpr ⟨lw_r2, lw_r3⟩⟩
end
section
def RX0 : String := "PackExchange$Node"
def TX0 : u_T := fun k => match k with
  | 0 => ("PackExchange$Node", "values", "[I", true)
  | 1 => ("PackExchange$Node", "log", "[I", true)
  | 2 => ("PackExchange$Node", "noted", "I", false)
  | 3 => ("PackExchange$Node", "sealed", "Z", false)
  | 4 => ("PackExchange$Node", "held", "J", false)
  | 5 => ("PackExchange$Node", "powered", "Z", false)
  | _ => ("PackExchange$Node", "writesLeft", "I", false)
def tyX0 : Nat → FieldType := fun k => match k with
  | 0 => .array .int
  | 1 => .array .int
  | 2 => .int
  | 3 => .boolean
  | 4 => .long
  | 5 => .boolean
  | _ => .int
theorem nX0 : ∀ a, a < 7 → ∀ b, b < 7 → a ≠ b → (TX0 a).2.1 ≠ (TX0 b).2.1 := by decide +kernel
theorem tyX0_ok : ∀ k, k < 7 → parseFieldDescriptor (TX0 k).2.2.1 = some (tyX0 k) := by decide +kernel
def RX1 : String := "PackExchange$Pack"
def TX1 : u_T := fun k => match k with
  | 0 => ("PackExchange$Pack", "objects", "[I", true)
  | 1 => ("PackExchange$Pack", "bases", "[I", true)
  | 2 => ("PackExchange$Pack", "chains", "[I", true)
  | 3 => ("PackExchange$Pack", "members", "J", false)
  | 4 => ("PackExchange$Pack", "size", "I", false)
  | _ => ("PackExchange$Pack", "total", "I", false)
def tyX1 : Nat → FieldType := fun k => match k with
  | 0 => .array .int
  | 1 => .array .int
  | 2 => .array .int
  | 3 => .long
  | 4 => .int
  | _ => .int
theorem nX1 : ∀ a, a < 6 → ∀ b, b < 6 → a ≠ b → (TX1 a).2.1 ≠ (TX1 b).2.1 := by decide +kernel
theorem tyX1_ok : ∀ k, k < 6 → parseFieldDescriptor (TX1 k).2.2.1 = some (tyX1 k) := by decide +kernel
def RX2 : String := "PackExchange$Store"
def TX2 : u_T := fun k => match k with
  | 0 => ("PackExchange$Store", "kinds", "[I", true)
  | 1 => ("PackExchange$Store", "firsts", "[I", true)
  | 2 => ("PackExchange$Store", "seconds", "[I", true)
  | 3 => ("PackExchange$Store", "thirds", "[I", true)
  | 4 => ("PackExchange$Store", "reaches", "[J", true)
  | _ => ("PackExchange$Store", "size", "I", false)
def tyX2 : Nat → FieldType := fun k => match k with
  | 0 => .array .int
  | 1 => .array .int
  | 2 => .array .int
  | 3 => .array .int
  | 4 => .array .long
  | _ => .int
theorem nX2 : ∀ a, a < 6 → ∀ b, b < 6 → a ≠ b → (TX2 a).2.1 ≠ (TX2 b).2.1 := by decide +kernel
theorem tyX2_ok : ∀ k, k < 6 → parseFieldDescriptor (TX2 k).2.2.1 = some (tyX2 k) := by decide +kernel
def RX3 : String := "PackExchange$Talk"
def TX3 : u_T := fun k => match k with
  | 0 => ("PackExchange$Talk", "sent", "I", false)
  | 1 => ("PackExchange$Talk", "acknowledged", "I", false)
  | _ => ("PackExchange$Talk", "rounds", "I", false)
def tyX3 : Nat → FieldType := fun k => match k with
  | 0 => .int
  | 1 => .int
  | _ => .int
theorem nX3 : ∀ a, a < 3 → ∀ b, b < 3 → a ≠ b → (TX3 a).2.1 ≠ (TX3 b).2.1 := by decide +kernel
theorem tyX3_ok : ∀ k, k < 3 → parseFieldDescriptor (TX3 k).2.2.1 = some (tyX3 k) := by decide +kernel
def RX4 : String := "PackExchange"
def TX4 : u_T := fun k => match k with
  | 0 => ("PackExchange", "store", "LPackExchange$Store;", true)
  | 1 => ("PackExchange", "nodes", "[LPackExchange$Node;", true)
  | 2 => ("PackExchange", "latestTalk", "LPackExchange$Talk;", true)
  | 3 => ("PackExchange", "latestPack", "LPackExchange$Pack;", true)
  | 4 => ("PackExchange", "verdicts", "[I", true)
  | _ => ("PackExchange", "targets", "[I", true)
def tyX4 : Nat → FieldType := fun k => match k with
  | 0 => .object "PackExchange$Store"
  | 1 => .array (.object "PackExchange$Node")
  | 2 => .object "PackExchange$Talk"
  | 3 => .object "PackExchange$Pack"
  | 4 => .array .int
  | _ => .array .int
theorem nX4 : ∀ a, a < 6 → ∀ b, b < 6 → a ≠ b → (TX4 a).2.1 ≠ (TX4 b).2.1 := by decide +kernel
theorem tyX4_ok : ∀ k, k < 6 → parseFieldDescriptor (TX4 k).2.2.1 = some (tyX4 k) := by decide +kernel
def RX5 : String := "PackExchangeModel"
def TX5 : u_T := fun k => match k with
  | 0 => ("PackExchangeModel", "objects", "I", false)
  | 1 => ("PackExchangeModel", "kind", "[I", true)
  | 2 => ("PackExchangeModel", "one", "[I", true)
  | 3 => ("PackExchangeModel", "two", "[I", true)
  | 4 => ("PackExchangeModel", "three", "[I", true)
  | 5 => ("PackExchangeModel", "held", "[J", true)
  | 6 => ("PackExchangeModel", "ref", "[I", true)
  | 7 => ("PackExchangeModel", "dark", "[Z", true)
  | 8 => ("PackExchangeModel", "fuse", "[I", true)
  | 9 => ("PackExchangeModel", "noted", "[I", true)
  | 10 => ("PackExchangeModel", "sealed", "[Z", true)
  | 11 => ("PackExchangeModel", "noteRef", "[I", true)
  | 12 => ("PackExchangeModel", "noteValue", "[I", true)
  | 13 => ("PackExchangeModel", "wishes", "I", false)
  | 14 => ("PackExchangeModel", "wishRef", "[I", true)
  | 15 => ("PackExchangeModel", "wishValue", "[I", true)
  | 16 => ("PackExchangeModel", "haves", "I", false)
  | 17 => ("PackExchangeModel", "acks", "I", false)
  | 18 => ("PackExchangeModel", "rounds", "I", false)
  | 19 => ("PackExchangeModel", "verdicts", "[I", true)
  | 20 => ("PackExchangeModel", "size", "I", false)
  | 21 => ("PackExchangeModel", "at", "[I", true)
  | 22 => ("PackExchangeModel", "bases", "[I", true)
  | 23 => ("PackExchangeModel", "chain", "[I", true)
  | _ => ("PackExchangeModel", "weights", "[I", true)
def tyX5 : Nat → FieldType := fun k => match k with
  | 0 => .int
  | 1 => .array .int
  | 2 => .array .int
  | 3 => .array .int
  | 4 => .array .int
  | 5 => .array .long
  | 6 => .array .int
  | 7 => .array .boolean
  | 8 => .array .int
  | 9 => .array .int
  | 10 => .array .boolean
  | 11 => .array .int
  | 12 => .array .int
  | 13 => .int
  | 14 => .array .int
  | 15 => .array .int
  | 16 => .int
  | 17 => .int
  | 18 => .int
  | 19 => .array .int
  | 20 => .int
  | 21 => .array .int
  | 22 => .array .int
  | 23 => .array .int
  | _ => .array .int
theorem nX5 : ∀ a, a < 25 → ∀ b, b < 25 → a ≠ b → (TX5 a).2.1 ≠ (TX5 b).2.1 := by decide +kernel
theorem tyX5_ok : ∀ k, k < 25 → parseFieldDescriptor (TX5 k).2.2.1 = some (tyX5 k) := by decide +kernel
def RJL : String := "java/lang/Long"
def RL : String := "PackExchangeLaw"
abbrev cXL_law : ByteArray := code
abbrev cX4_isNode : ByteArray := prog_1_method_21_code
def yX4_isNode : MethodName := ⟨RX4, "isNode", "(I)Z"⟩
abbrev cX4_isClient : ByteArray := prog_1_method_22_code
def yX4_isClient : MethodName := ⟨RX4, "isClient", "(I)Z"⟩
abbrev cX4_isOwnReference : ByteArray := prog_1_method_23_code
def yX4_isOwnReference : MethodName := ⟨RX4, "isOwnReference", "(I)Z"⟩
abbrev cX4_isSet : ByteArray := prog_1_method_24_code
def yX4_isSet : MethodName := ⟨RX4, "isSet", "(I)Z"⟩
abbrev cX4_isIn : ByteArray := prog_1_method_25_code
def yX4_isIn : MethodName := ⟨RX4, "isIn", "(JI)Z"⟩
abbrev cX4_isChosen : ByteArray := prog_1_method_26_code
def yX4_isChosen : MethodName := ⟨RX4, "isChosen", "(II)Z"⟩
abbrev cX0_isUp : ByteArray := prog_2_method_2_code
def yX0_isUp : MethodName := ⟨RX0, "isUp", "()Z"⟩
abbrev cX0_armWith : ByteArray := prog_2_method_3_code
def yX0_armWith : MethodName := ⟨RX0, "armWith", "(I)V"⟩
abbrev cX0_write : ByteArray := prog_2_method_4_code
def yX0_write : MethodName := ⟨RX0, "write", "()Z"⟩
abbrev cX0_heldSet : ByteArray := prog_2_method_5_code
def yX0_heldSet : MethodName := ⟨RX0, "heldSet", "()J"⟩
abbrev cX0_keep : ByteArray := prog_2_method_6_code
def yX0_keep : MethodName := ⟨RX0, "keep", "(I)V"⟩
abbrev cJL_bitCount : ByteArray := prog_8_method_50_code
def yJL_bitCount : MethodName := ⟨RJL, "bitCount", "(J)I"⟩
abbrev cX0_keepOnly : ByteArray := prog_2_method_7_code
def yX0_keepOnly : MethodName := ⟨RX0, "keepOnly", "(J)I"⟩
abbrev cX0_valueOf : ByteArray := prog_2_method_9_code
def yX0_valueOf : MethodName := ⟨RX0, "valueOf", "(I)I"⟩
abbrev cX0_writeMissing : ByteArray := prog_2_method_8_code
def yX0_writeMissing : MethodName := ⟨RX0, "writeMissing", "(J)Z"⟩
abbrev cX0_hasValues : ByteArray := prog_2_method_10_code
def yX0_hasValues : MethodName := ⟨RX0, "hasValues", "(I)Z"⟩
abbrev cX0_commitsOf : ByteArray := prog_2_method_11_code
def yX0_commitsOf : MethodName := ⟨RX0, "commitsOf", "(I)J"⟩
abbrev cX0_emptyLog : ByteArray := prog_2_method_15_code
def yX0_emptyLog : MethodName := ⟨RX0, "emptyLog", "()Z"⟩
abbrev cX0_carryOutLog : ByteArray := prog_2_method_14_code
def yX0_carryOutLog : MethodName := ⟨RX0, "carryOutLog", "()Z"⟩
abbrev cX0_transact : ByteArray := prog_2_method_12_code
def yX0_transact : MethodName := ⟨RX0, "transact", "([I)Z"⟩
abbrev cX0_restore : ByteArray := prog_2_method_13_code
def yX0_restore : MethodName := ⟨RX0, "restore", "()I"⟩
abbrev cX2_isFull : ByteArray := prog_4_method_2_code
def yX2_isFull : MethodName := ⟨RX2, "isFull", "()Z"⟩
abbrev cX2_isNumber : ByteArray := prog_4_method_12_code
def yX2_isNumber : MethodName := ⟨RX2, "isNumber", "(I)Z"⟩
abbrev cX2_isOfKind : ByteArray := prog_4_method_3_code
def yX2_isOfKind : MethodName := ⟨RX2, "isOfKind", "(II)Z"⟩
abbrev cX2_reachOf : ByteArray := prog_4_method_6_code
def yX2_reachOf : MethodName := ⟨RX2, "reachOf", "(I)J"⟩
abbrev cX2_contentOf : ByteArray := prog_4_method_10_code
def yX2_contentOf : MethodName := ⟨RX2, "contentOf", "(I)I"⟩
abbrev cX2_partsOf : ByteArray := prog_4_method_11_code
def yX2_partsOf : MethodName := ⟨RX2, "partsOf", "(I)I"⟩
abbrev cX2_find : ByteArray := prog_4_method_4_code
def yX2_find : MethodName := ⟨RX2, "find", "(IIII)I"⟩
abbrev cX2_add : ByteArray := prog_4_method_5_code
def yX2_add : MethodName := ⟨RX2, "add", "(IIII)I"⟩
abbrev cX2_reachOfAll : ByteArray := prog_4_method_7_code
def yX2_reachOfAll : MethodName := ⟨RX2, "reachOfAll", "(J)J"⟩
abbrev cX2_eachReachesOne : ByteArray := prog_4_method_8_code
def yX2_eachReachesOne : MethodName := ⟨RX2, "eachReachesOne", "(JJ)Z"⟩
abbrev cX2_allOfKind : ByteArray := prog_4_method_9_code
def yX2_allOfKind : MethodName := ⟨RX2, "allOfKind", "(I)J"⟩
abbrev cX3_highest : ByteArray := prog_5_method_6_code
def yX3_highest : MethodName := ⟨RX3, "highest", "(J)J"⟩
abbrev cX3_havesSent : ByteArray := prog_5_method_3_code
def yX3_havesSent : MethodName := ⟨RX3, "havesSent", "()I"⟩
abbrev cX3_havesAcknowledged : ByteArray := prog_5_method_4_code
def yX3_havesAcknowledged : MethodName := ⟨RX3, "havesAcknowledged", "()I"⟩
abbrev cX3_roundsHeld : ByteArray := prog_5_method_5_code
def yX3_roundsHeld : MethodName := ⟨RX3, "roundsHeld", "()I"⟩
abbrev cX3_run : ByteArray := prog_5_method_2_code
def yX3_run : MethodName := ⟨RX3, "run", "(LPackExchange$Store;JJJ)J"⟩
abbrev cX1_memberSet : ByteArray := prog_3_method_3_code
def yX1_memberSet : MethodName := ⟨RX1, "memberSet", "()J"⟩
abbrev cX1_length : ByteArray := prog_3_method_4_code
def yX1_length : MethodName := ⟨RX1, "length", "()I"⟩
abbrev cX1_totalWeight : ByteArray := prog_3_method_5_code
def yX1_totalWeight : MethodName := ⟨RX1, "totalWeight", "()I"⟩
abbrev cX1_isPlace : ByteArray := prog_3_method_8_code
def yX1_isPlace : MethodName := ⟨RX1, "isPlace", "(I)Z"⟩
abbrev cX1_objectAt : ByteArray := prog_3_method_6_code
def yX1_objectAt : MethodName := ⟨RX1, "objectAt", "(I)I"⟩
abbrev cX1_baseAt : ByteArray := prog_3_method_7_code
def yX1_baseAt : MethodName := ⟨RX1, "baseAt", "(I)I"⟩
abbrev cX1_differingDigits : ByteArray := prog_3_method_11_code
def yX1_differingDigits : MethodName := ⟨RX1, "differingDigits", "(II)I"⟩
abbrev cX1_chooseBase : ByteArray := prog_3_method_10_code
def yX1_chooseBase : MethodName := ⟨RX1, "chooseBase", "(LPackExchange$Store;I)I"⟩
abbrev cX1_placeKind : ByteArray := prog_3_method_9_code
def yX1_placeKind : MethodName := ⟨RX1, "placeKind", "(LPackExchange$Store;I)V"⟩
abbrev cX1_fill : ByteArray := prog_3_method_2_code
def yX1_fill : MethodName := ⟨RX1, "fill", "(LPackExchange$Store;J)V"⟩
abbrev cX4_holdsKind : ByteArray := prog_1_method_27_code
def yX4_holdsKind : MethodName := ⟨RX4, "holdsKind", "(LPackExchange$Node;II)Z"⟩
abbrev cX4_isEntry : ByteArray := prog_1_method_28_code
def yX4_isEntry : MethodName := ⟨RX4, "isEntry", "(LPackExchange$Node;I)Z"⟩
abbrev cX4_isCommitOrAbsent : ByteArray := prog_1_method_29_code
def yX4_isCommitOrAbsent : MethodName := ⟨RX4, "isCommitOrAbsent", "(LPackExchange$Node;I)Z"⟩
abbrev cX4_writeObject : ByteArray := prog_1_method_30_code
def yX4_writeObject : MethodName := ⟨RX4, "writeObject", "(LPackExchange$Node;IIII)I"⟩
abbrev cX4_clearTargets : ByteArray := prog_1_method_31_code
def yX4_clearTargets : MethodName := ⟨RX4, "clearTargets", "()V"⟩
abbrev cX4_aimAtOne : ByteArray := prog_1_method_32_code
def yX4_aimAtOne : MethodName := ⟨RX4, "aimAtOne", "(II)V"⟩
abbrev cX4_aimAtValues : ByteArray := prog_1_method_33_code
def yX4_aimAtValues : MethodName := ⟨RX4, "aimAtValues", "(LPackExchange$Node;II)V"⟩
abbrev cX4_verdictOn : ByteArray := prog_1_method_35_code
def yX4_verdictOn : MethodName := ⟨RX4, "verdictOn", "(LPackExchange$Node;LPackExchange$Node;I)I"⟩
abbrev cX4_judge : ByteArray := prog_1_method_34_code
def yX4_judge : MethodName := ⟨RX4, "judge", "(LPackExchange$Node;LPackExchange$Node;I)Z"⟩
abbrev cX4_carryOutPush : ByteArray := prog_1_method_36_code
def yX4_carryOutPush : MethodName := ⟨RX4, "carryOutPush", "(LPackExchange$Node;LPackExchange$Node;I)Z"⟩
abbrev cX4_blob : ByteArray := prog_1_method_2_code
def yX4_blob : MethodName := ⟨RX4, "blob", "(II)I"⟩
abbrev cX4_tree : ByteArray := prog_1_method_3_code
def yX4_tree : MethodName := ⟨RX4, "tree", "(III)I"⟩
abbrev cX4_commit : ByteArray := prog_1_method_4_code
def yX4_commit : MethodName := ⟨RX4, "commit", "(IIII)I"⟩
abbrev cX4_point : ByteArray := prog_1_method_5_code
def yX4_point : MethodName := ⟨RX4, "point", "(III)I"⟩
abbrev cX4_fetch : ByteArray := prog_1_method_6_code
def yX4_fetch : MethodName := ⟨RX4, "fetch", "(II)I"⟩
abbrev cX4_push : ByteArray := prog_1_method_7_code
def yX4_push : MethodName := ⟨RX4, "push", "(II)I"⟩
abbrev cX4_arm : ByteArray := prog_1_method_8_code
def yX4_arm : MethodName := ⟨RX4, "arm", "(II)Z"⟩
abbrev cX4_recover : ByteArray := prog_1_method_9_code
def yX4_recover : MethodName := ⟨RX4, "recover", "(I)I"⟩
abbrev cX4_collect : ByteArray := prog_1_method_10_code
def yX4_collect : MethodName := ⟨RX4, "collect", "(I)I"⟩
abbrev cX4_up : ByteArray := prog_1_method_11_code
def yX4_up : MethodName := ⟨RX4, "up", "(I)Z"⟩
abbrev cX4_reference : ByteArray := prog_1_method_12_code
def yX4_reference : MethodName := ⟨RX4, "reference", "(II)I"⟩
abbrev cX4_holds : ByteArray := prog_1_method_13_code
def yX4_holds : MethodName := ⟨RX4, "holds", "(II)I"⟩
abbrev cX4_count : ByteArray := prog_1_method_14_code
def yX4_count : MethodName := ⟨RX4, "count", "(I)I"⟩
abbrev cX4_talk : ByteArray := prog_1_method_15_code
def yX4_talk : MethodName := ⟨RX4, "talk", "(I)I"⟩
abbrev cX4_packed : ByteArray := prog_1_method_16_code
def yX4_packed : MethodName := ⟨RX4, "packed", "()I"⟩
abbrev cX4_packAt : ByteArray := prog_1_method_17_code
def yX4_packAt : MethodName := ⟨RX4, "packAt", "(I)I"⟩
abbrev cX4_base : ByteArray := prog_1_method_18_code
def yX4_base : MethodName := ⟨RX4, "base", "(I)I"⟩
abbrev cX4_weight : ByteArray := prog_1_method_19_code
def yX4_weight : MethodName := ⟨RX4, "weight", "()I"⟩
abbrev cX4_verdict : ByteArray := prog_1_method_20_code
def yX4_verdict : MethodName := ⟨RX4, "verdict", "(I)I"⟩
abbrev cX5_isNode : ByteArray := prog_7_method_2_code
def yX5_isNode : MethodName := ⟨RX5, "isNode", "(I)Z"⟩
abbrev cX5_many : ByteArray := prog_7_method_5_code
def yX5_many : MethodName := ⟨RX5, "many", "(J)I"⟩
abbrev cX5_has : ByteArray := prog_7_method_3_code
def yX5_has : MethodName := ⟨RX5, "has", "(II)Z"⟩
abbrev cX5_reach : ByteArray := prog_7_method_4_code
def yX5_reach : MethodName := ⟨RX5, "reach", "(J)J"⟩
abbrev cX5_tips : ByteArray := prog_7_method_6_code
def yX5_tips : MethodName := ⟨RX5, "tips", "(III)J"⟩
abbrev cX5_write : ByteArray := prog_7_method_7_code
def yX5_write : MethodName := ⟨RX5, "write", "(I)Z"⟩
abbrev cX5_store : ByteArray := prog_7_method_8_code
def yX5_store : MethodName := ⟨RX5, "store", "(IJ)Z"⟩
abbrev cX5_wish : ByteArray := prog_7_method_9_code
def yX5_wish : MethodName := ⟨RX5, "wish", "(II)V"⟩
abbrev cX5_wipe : ByteArray := prog_7_method_12_code
def yX5_wipe : MethodName := ⟨RX5, "wipe", "(I)Z"⟩
abbrev cX5_replay : ByteArray := prog_7_method_11_code
def yX5_replay : MethodName := ⟨RX5, "replay", "(I)Z"⟩
abbrev cX5_transact : ByteArray := prog_7_method_10_code
def yX5_transact : MethodName := ⟨RX5, "transact", "(I)Z"⟩
abbrev cX5_make : ByteArray := prog_7_method_13_code
def yX5_make : MethodName := ⟨RX5, "make", "(IIIII)I"⟩
abbrev cX5_entry : ByteArray := prog_7_method_15_code
def yX5_entry : MethodName := ⟨RX5, "entry", "(II)Z"⟩
abbrev cX5_blob : ByteArray := prog_7_method_14_code
def yX5_blob : MethodName := ⟨RX5, "blob", "(II)I"⟩
abbrev cX5_tree : ByteArray := prog_7_method_16_code
def yX5_tree : MethodName := ⟨RX5, "tree", "(III)I"⟩
abbrev cX5_commit : ByteArray := prog_7_method_17_code
def yX5_commit : MethodName := ⟨RX5, "commit", "(IIII)I"⟩
abbrev cX5_point : ByteArray := prog_7_method_18_code
def yX5_point : MethodName := ⟨RX5, "point", "(III)I"⟩
abbrev cX5_place : ByteArray := prog_7_method_19_code
def yX5_place : MethodName := ⟨RX5, "place", "(I)V"⟩
abbrev cX5_pack : ByteArray := prog_7_method_20_code
def yX5_pack : MethodName := ⟨RX5, "pack", "(J)V"⟩
abbrev cX5_allReach : ByteArray := prog_7_method_21_code
def yX5_allReach : MethodName := ⟨RX5, "allReach", "(JJ)Z"⟩
abbrev cX5_converse : ByteArray := prog_7_method_22_code
def yX5_converse : MethodName := ⟨RX5, "converse", "(IJ)J"⟩
abbrev cX5_fetch : ByteArray := prog_7_method_23_code
def yX5_fetch : MethodName := ⟨RX5, "fetch", "(II)I"⟩
abbrev cX5_judge : ByteArray := prog_7_method_25_code
def yX5_judge : MethodName := ⟨RX5, "judge", "(III)I"⟩
abbrev cX5_carry : ByteArray := prog_7_method_26_code
def yX5_carry : MethodName := ⟨RX5, "carry", "(II)Z"⟩
abbrev cX5_push : ByteArray := prog_7_method_24_code
def yX5_push : MethodName := ⟨RX5, "push", "(II)I"⟩
abbrev cX5_arm : ByteArray := prog_7_method_27_code
def yX5_arm : MethodName := ⟨RX5, "arm", "(II)Z"⟩
abbrev cX5_recover : ByteArray := prog_7_method_28_code
def yX5_recover : MethodName := ⟨RX5, "recover", "(I)I"⟩
abbrev cX5_collect : ByteArray := prog_7_method_29_code
def yX5_collect : MethodName := ⟨RX5, "collect", "(I)I"⟩
abbrev cX5_up : ByteArray := prog_7_method_30_code
def yX5_up : MethodName := ⟨RX5, "up", "(I)Z"⟩
abbrev cX5_reference : ByteArray := prog_7_method_31_code
def yX5_reference : MethodName := ⟨RX5, "reference", "(II)I"⟩
abbrev cX5_holds : ByteArray := prog_7_method_32_code
def yX5_holds : MethodName := ⟨RX5, "holds", "(II)I"⟩
abbrev cX5_count : ByteArray := prog_7_method_33_code
def yX5_count : MethodName := ⟨RX5, "count", "(I)I"⟩
abbrev cX5_talk : ByteArray := prog_7_method_34_code
def yX5_talk : MethodName := ⟨RX5, "talk", "(I)I"⟩
abbrev cX5_packed : ByteArray := prog_7_method_35_code
def yX5_packed : MethodName := ⟨RX5, "packed", "()I"⟩
abbrev cX5_packAt : ByteArray := prog_7_method_36_code
def yX5_packAt : MethodName := ⟨RX5, "packAt", "(I)I"⟩
abbrev cX5_base : ByteArray := prog_7_method_37_code
def yX5_base : MethodName := ⟨RX5, "base", "(I)I"⟩
abbrev cX5_weight : ByteArray := prog_7_method_38_code
def yX5_weight : MethodName := ⟨RX5, "weight", "()I"⟩
abbrev cX5_verdict : ByteArray := prog_7_method_39_code
def yX5_verdict : MethodName := ⟨RX5, "verdict", "(I)I"⟩
abbrev cX0_init : ByteArray := prog_2_method_1_code
def yX0_init : MethodName := ⟨RX0, "<init>", "()V"⟩
abbrev cX1_init : ByteArray := prog_3_method_1_code
def yX1_init : MethodName := ⟨RX1, "<init>", "()V"⟩
abbrev cX2_init : ByteArray := prog_4_method_1_code
def yX2_init : MethodName := ⟨RX2, "<init>", "()V"⟩
abbrev cX3_init : ByteArray := prog_5_method_1_code
def yX3_init : MethodName := ⟨RX3, "<init>", "()V"⟩
abbrev cX4_init : ByteArray := prog_1_method_1_code
def yX4_init : MethodName := ⟨RX4, "<init>", "()V"⟩
abbrev cX5_init : ByteArray := prog_7_method_1_code
def yX5_init : MethodName := ⟨RX5, "<init>", "()V"⟩
abbrev vwCl : List vw_C := [(RX0, TX0, 7), (RX1, TX1, 6), (RX2, TX2, 6), (RX3, TX3, 3), (RX4, TX4, 6), (RX5, TX5, 25)]
/-- the words that stay: those of the tables that a callee may ask for -/
def yW : List Cond := lw_tbl.filter goodWord
theorem yW_of {w : Cond} (h : w ∈ lw_tbl) (hg : goodWord w = true) : w ∈ yW := List.mem_filter.mpr ⟨h, hg⟩
set_option maxRecDepth 20000 in
theorem wq_0 : Cond.selects RX4 yX4_writeObject yX4_writeObject ∈ yW := yW_of (List.mem_append_left _ (List.mem_of_getElem? (i := 0) rfl)) rfl
set_option maxRecDepth 20000 in
theorem wq_1 : Cond.selects RX2 yX2_isNumber yX2_isNumber ∈ yW := yW_of (List.mem_append_left _ (List.mem_of_getElem? (i := 1) rfl)) rfl
set_option maxRecDepth 20000 in
theorem wq_2 : Cond.selects RX4 yX4_isEntry yX4_isEntry ∈ yW := yW_of (List.mem_append_left _ (List.mem_of_getElem? (i := 2) rfl)) rfl
set_option maxRecDepth 20000 in
theorem wq_3 : Cond.selects RX4 yX4_holdsKind yX4_holdsKind ∈ yW := yW_of (List.mem_append_left _ (List.mem_of_getElem? (i := 3) rfl)) rfl
set_option maxRecDepth 20000 in
theorem wq_4 : Cond.selects RX4 yX4_isCommitOrAbsent yX4_isCommitOrAbsent ∈ yW := yW_of (List.mem_append_left _ (List.mem_of_getElem? (i := 4) rfl)) rfl
set_option maxRecDepth 20000 in
theorem wq_5 : Cond.selects RX4 yX4_aimAtOne yX4_aimAtOne ∈ yW := yW_of (List.mem_append_left _ (List.mem_of_getElem? (i := 5) rfl)) rfl
set_option maxRecDepth 20000 in
theorem wq_6 : Cond.selects RX4 yX4_clearTargets yX4_clearTargets ∈ yW := yW_of (List.mem_append_left _ (List.mem_of_getElem? (i := 6) rfl)) rfl
set_option maxRecDepth 20000 in
theorem wq_7 : Cond.selects RX0 yX0_carryOutLog yX0_carryOutLog ∈ yW := yW_of (List.mem_append_left _ (List.mem_of_getElem? (i := 7) rfl)) rfl
set_option maxRecDepth 20000 in
theorem wq_8 : Cond.selects RX0 yX0_emptyLog yX0_emptyLog ∈ yW := yW_of (List.mem_append_left _ (List.mem_of_getElem? (i := 8) rfl)) rfl
set_option maxRecDepth 20000 in
theorem wq_9 : Cond.selects RX1 yX1_placeKind yX1_placeKind ∈ yW := yW_of (List.mem_append_left _ (List.mem_of_getElem? (i := 9) rfl)) rfl
set_option maxRecDepth 20000 in
theorem wq_10 : Cond.selects RX1 yX1_chooseBase yX1_chooseBase ∈ yW := yW_of (List.mem_append_left _ (List.mem_of_getElem? (i := 10) rfl)) rfl
set_option maxRecDepth 20000 in
theorem wq_11 : Cond.selects RX4 yX4_aimAtValues yX4_aimAtValues ∈ yW := yW_of (List.mem_append_left _ (List.mem_of_getElem? (i := 11) rfl)) rfl
set_option maxRecDepth 20000 in
theorem wq_12 : Cond.selects RX4 yX4_judge yX4_judge ∈ yW := yW_of (List.mem_append_left _ (List.mem_of_getElem? (i := 12) rfl)) rfl
set_option maxRecDepth 20000 in
theorem wq_13 : Cond.selects RX4 yX4_verdictOn yX4_verdictOn ∈ yW := yW_of (List.mem_append_left _ (List.mem_of_getElem? (i := 13) rfl)) rfl
set_option maxRecDepth 20000 in
theorem wq_14 : Cond.selects RX4 yX4_carryOutPush yX4_carryOutPush ∈ yW := yW_of (List.mem_append_left _ (List.mem_of_getElem? (i := 14) rfl)) rfl
set_option maxRecDepth 20000 in
theorem wq_15 : Cond.selects RX1 yX1_isPlace yX1_isPlace ∈ yW := yW_of (List.mem_append_left _ (List.mem_of_getElem? (i := 15) rfl)) rfl
set_option maxRecDepth 20000 in
theorem wq_16 : Cond.selects RX5 yX5_make yX5_make ∈ yW := yW_of (List.mem_append_left _ (List.mem_of_getElem? (i := 16) rfl)) rfl
set_option maxRecDepth 20000 in
theorem wq_17 : Cond.selects RX5 yX5_has yX5_has ∈ yW := yW_of (List.mem_append_left _ (List.mem_of_getElem? (i := 17) rfl)) rfl
set_option maxRecDepth 20000 in
theorem wq_18 : Cond.selects RX5 yX5_write yX5_write ∈ yW := yW_of (List.mem_append_left _ (List.mem_of_getElem? (i := 18) rfl)) rfl
set_option maxRecDepth 20000 in
theorem wq_19 : Cond.selects RX5 yX5_entry yX5_entry ∈ yW := yW_of (List.mem_append_left _ (List.mem_of_getElem? (i := 19) rfl)) rfl
set_option maxRecDepth 20000 in
theorem wq_20 : Cond.selects RX5 yX5_wish yX5_wish ∈ yW := yW_of (List.mem_append_left _ (List.mem_of_getElem? (i := 20) rfl)) rfl
set_option maxRecDepth 20000 in
theorem wq_21 : Cond.selects RX5 yX5_transact yX5_transact ∈ yW := yW_of (List.mem_append_left _ (List.mem_of_getElem? (i := 21) rfl)) rfl
set_option maxRecDepth 20000 in
theorem wq_22 : Cond.selects RX5 yX5_replay yX5_replay ∈ yW := yW_of (List.mem_append_left _ (List.mem_of_getElem? (i := 22) rfl)) rfl
set_option maxRecDepth 20000 in
theorem wq_23 : Cond.selects RX5 yX5_wipe yX5_wipe ∈ yW := yW_of (List.mem_append_left _ (List.mem_of_getElem? (i := 23) rfl)) rfl
set_option maxRecDepth 20000 in
theorem wq_24 : Cond.selects RX5 yX5_converse yX5_converse ∈ yW := yW_of (List.mem_append_left _ (List.mem_of_getElem? (i := 24) rfl)) rfl
set_option maxRecDepth 20000 in
theorem wq_25 : Cond.selects RX5 yX5_tips yX5_tips ∈ yW := yW_of (List.mem_append_left _ (List.mem_of_getElem? (i := 25) rfl)) rfl
set_option maxRecDepth 20000 in
theorem wq_26 : Cond.selects RX5 yX5_reach yX5_reach ∈ yW := yW_of (List.mem_append_left _ (List.mem_of_getElem? (i := 26) rfl)) rfl
set_option maxRecDepth 20000 in
theorem wq_27 : Cond.selects RX5 yX5_allReach yX5_allReach ∈ yW := yW_of (List.mem_append_left _ (List.mem_of_getElem? (i := 27) rfl)) rfl
set_option maxRecDepth 20000 in
theorem wq_28 : Cond.selects RX5 yX5_pack yX5_pack ∈ yW := yW_of (List.mem_append_left _ (List.mem_of_getElem? (i := 28) rfl)) rfl
set_option maxRecDepth 20000 in
theorem wq_29 : Cond.selects RX5 yX5_place yX5_place ∈ yW := yW_of (List.mem_append_left _ (List.mem_of_getElem? (i := 29) rfl)) rfl
set_option maxRecDepth 20000 in
theorem wq_30 : Cond.selects RX5 yX5_store yX5_store ∈ yW := yW_of (List.mem_append_left _ (List.mem_of_getElem? (i := 30) rfl)) rfl
set_option maxRecDepth 20000 in
theorem wq_31 : Cond.selects RX5 yX5_judge yX5_judge ∈ yW := yW_of (List.mem_append_left _ (List.mem_of_getElem? (i := 31) rfl)) rfl
set_option maxRecDepth 20000 in
theorem wq_32 : Cond.selects RX5 yX5_carry yX5_carry ∈ yW := yW_of (List.mem_append_left _ (List.mem_of_getElem? (i := 32) rfl)) rfl
set_option maxRecDepth 20000 in
theorem wq_34 : Cond.initialized RX4 ∈ yW := yW_of (List.mem_append_right _ (List.mem_of_getElem? (i := 1) rfl)) rfl
set_option maxRecDepth 20000 in
theorem wq_35 : Cond.initialized RX2 ∈ yW := yW_of (List.mem_append_right _ (List.mem_of_getElem? (i := 2) rfl)) rfl
set_option maxRecDepth 20000 in
theorem wq_36 : Cond.initialized RX0 ∈ yW := yW_of (List.mem_append_right _ (List.mem_of_getElem? (i := 3) rfl)) rfl
set_option maxRecDepth 20000 in
theorem wq_37 : Cond.initialized RX3 ∈ yW := yW_of (List.mem_append_right _ (List.mem_of_getElem? (i := 4) rfl)) rfl
set_option maxRecDepth 20000 in
theorem wq_38 : Cond.initialized RX1 ∈ yW := yW_of (List.mem_append_right _ (List.mem_of_getElem? (i := 5) rfl)) rfl
set_option maxRecDepth 20000 in
theorem wq_39 : Cond.initialized RX5 ∈ yW := yW_of (List.mem_append_right _ (List.mem_of_getElem? (i := 6) rfl)) rfl
set_option maxRecDepth 20000 in
theorem wq_40 : Cond.initialized RJL ∈ yW := yW_of (List.mem_append_right _ (List.mem_of_getElem? (i := 7) rfl)) rfl
set_option maxRecDepth 20000 in
theorem wq_41 : Cond.classLink RL 7 RX4 ∈ yW := yW_of (List.mem_append_right _ (List.mem_of_getElem? (i := 8) rfl)) rfl
set_option maxRecDepth 20000 in
theorem wq_42 : Cond.instantiable RX4 6 ∈ yW := yW_of (List.mem_append_right _ (List.mem_of_getElem? (i := 9) rfl)) rfl
set_option maxRecDepth 20000 in
theorem wq_43 : Cond.methodLink RL 9 yX4_init ∈ yW := yW_of (List.mem_append_right _ (List.mem_of_getElem? (i := 10) rfl)) rfl
set_option maxRecDepth 20000 in
theorem wq_44 : Cond.instanceMethod yX4_init ∈ yW := yW_of (List.mem_append_right _ (List.mem_of_getElem? (i := 11) rfl)) rfl
set_option maxRecDepth 20000 in
theorem wq_45 : Cond.code yX4_init cX4_init 2 none ∈ yW := yW_of (List.mem_append_right _ (List.mem_of_getElem? (i := 12) rfl)) rfl
set_option maxRecDepth 20000 in
theorem wq_46 : Cond.methodLink RX4 1 objectInit ∈ yW := yW_of (List.mem_append_right _ (List.mem_of_getElem? (i := 13) rfl)) rfl
set_option maxRecDepth 20000 in
theorem wq_47 : Cond.instanceMethod objectInit ∈ yW := yW_of (List.mem_append_right _ (List.mem_of_getElem? (i := 14) rfl)) rfl
set_option maxRecDepth 20000 in
theorem wq_48 : Cond.code objectInit ⟨#[0xb1]⟩ 1 none ∈ yW := yW_of (List.mem_append_right _ (List.mem_of_getElem? (i := 15) rfl)) rfl
set_option maxRecDepth 20000 in
theorem wq_49 : Cond.classLink RX4 7 RX2 ∈ yW := yW_of (List.mem_append_right _ (List.mem_of_getElem? (i := 16) rfl)) rfl
set_option maxRecDepth 20000 in
theorem wq_50 : Cond.instantiable RX2 6 ∈ yW := yW_of (List.mem_append_right _ (List.mem_of_getElem? (i := 17) rfl)) rfl
set_option maxRecDepth 20000 in
theorem wq_52 : Cond.instanceMethod yX2_init ∈ yW := yW_of (List.mem_append_right _ (List.mem_of_getElem? (i := 19) rfl)) rfl
set_option maxRecDepth 20000 in
theorem wq_53 : Cond.code yX2_init cX2_init 1 none ∈ yW := yW_of (List.mem_append_right _ (List.mem_of_getElem? (i := 20) rfl)) rfl
set_option maxRecDepth 20000 in
theorem wq_54 : Cond.methodLink RX2 3 objectInit ∈ yW := yW_of (List.mem_append_right _ (List.mem_of_getElem? (i := 21) rfl)) rfl
set_option maxRecDepth 20000 in
theorem wq_55 : Cond.fieldLink RX2 9 "PackExchange$Store" "kinds" "[I" ∈ yW := yW_of (List.mem_append_right _ (List.mem_of_getElem? (i := 22) rfl)) rfl
set_option maxRecDepth 20000 in
theorem wq_56 : Cond.fieldLink RX2 15 "PackExchange$Store" "firsts" "[I" ∈ yW := yW_of (List.mem_append_right _ (List.mem_of_getElem? (i := 23) rfl)) rfl
set_option maxRecDepth 20000 in
theorem wq_57 : Cond.fieldLink RX2 18 "PackExchange$Store" "seconds" "[I" ∈ yW := yW_of (List.mem_append_right _ (List.mem_of_getElem? (i := 24) rfl)) rfl
set_option maxRecDepth 20000 in
theorem wq_58 : Cond.fieldLink RX2 21 "PackExchange$Store" "thirds" "[I" ∈ yW := yW_of (List.mem_append_right _ (List.mem_of_getElem? (i := 25) rfl)) rfl
set_option maxRecDepth 20000 in
theorem wq_59 : Cond.fieldLink RX2 24 "PackExchange$Store" "reaches" "[J" ∈ yW := yW_of (List.mem_append_right _ (List.mem_of_getElem? (i := 26) rfl)) rfl
set_option maxRecDepth 20000 in
theorem wq_60 : Cond.fieldLink RX2 28 "PackExchange$Store" "size" "I" ∈ yW := yW_of (List.mem_append_right _ (List.mem_of_getElem? (i := 27) rfl)) rfl
set_option maxRecDepth 20000 in
theorem wq_74 : Cond.arrayClass .int ∈ yW := yW_of (List.mem_append_right _ (List.mem_of_getElem? (i := 41) rfl)) rfl
set_option maxRecDepth 20000 in
theorem wq_75 : Cond.arrayClass .long ∈ yW := yW_of (List.mem_append_right _ (List.mem_of_getElem? (i := 42) rfl)) rfl
set_option maxRecDepth 20000 in
theorem wq_76 : Cond.classLink RX4 16 RX0 ∈ yW := yW_of (List.mem_append_right _ (List.mem_of_getElem? (i := 43) rfl)) rfl
set_option maxRecDepth 20000 in
theorem wq_78 : Cond.instantiable RX0 7 ∈ yW := yW_of (List.mem_append_right _ (List.mem_of_getElem? (i := 45) rfl)) rfl
set_option maxRecDepth 20000 in
theorem wq_79 : Cond.methodLink RX4 22 yX0_init ∈ yW := yW_of (List.mem_append_right _ (List.mem_of_getElem? (i := 46) rfl)) rfl
set_option maxRecDepth 20000 in
theorem wq_80 : Cond.instanceMethod yX0_init ∈ yW := yW_of (List.mem_append_right _ (List.mem_of_getElem? (i := 47) rfl)) rfl
set_option maxRecDepth 20000 in
theorem wq_81 : Cond.code yX0_init cX0_init 2 none ∈ yW := yW_of (List.mem_append_right _ (List.mem_of_getElem? (i := 48) rfl)) rfl
set_option maxRecDepth 20000 in
theorem wq_82 : Cond.methodLink RX0 3 objectInit ∈ yW := yW_of (List.mem_append_right _ (List.mem_of_getElem? (i := 49) rfl)) rfl
set_option maxRecDepth 20000 in
theorem wq_83 : Cond.fieldLink RX0 9 "PackExchange$Node" "values" "[I" ∈ yW := yW_of (List.mem_append_right _ (List.mem_of_getElem? (i := 50) rfl)) rfl
set_option maxRecDepth 20000 in
theorem wq_84 : Cond.fieldLink RX0 15 "PackExchange$Node" "log" "[I" ∈ yW := yW_of (List.mem_append_right _ (List.mem_of_getElem? (i := 51) rfl)) rfl
set_option maxRecDepth 20000 in
theorem wq_85 : Cond.fieldLink RX0 18 "PackExchange$Node" "noted" "I" ∈ yW := yW_of (List.mem_append_right _ (List.mem_of_getElem? (i := 52) rfl)) rfl
set_option maxRecDepth 20000 in
theorem wq_86 : Cond.fieldLink RX0 22 "PackExchange$Node" "sealed" "Z" ∈ yW := yW_of (List.mem_append_right _ (List.mem_of_getElem? (i := 53) rfl)) rfl
set_option maxRecDepth 20000 in
theorem wq_87 : Cond.fieldLink RX0 26 "PackExchange$Node" "held" "J" ∈ yW := yW_of (List.mem_append_right _ (List.mem_of_getElem? (i := 54) rfl)) rfl
set_option maxRecDepth 20000 in
theorem wq_88 : Cond.fieldLink RX0 30 "PackExchange$Node" "powered" "Z" ∈ yW := yW_of (List.mem_append_right _ (List.mem_of_getElem? (i := 55) rfl)) rfl
set_option maxRecDepth 20000 in
theorem wq_89 : Cond.fieldLink RX0 33 "PackExchange$Node" "writesLeft" "I" ∈ yW := yW_of (List.mem_append_right _ (List.mem_of_getElem? (i := 56) rfl)) rfl
set_option maxRecDepth 20000 in
theorem wq_105 : Cond.classLink RX4 23 RX3 ∈ yW := yW_of (List.mem_append_right _ (List.mem_of_getElem? (i := 72) rfl)) rfl
set_option maxRecDepth 20000 in
theorem wq_106 : Cond.instantiable RX3 3 ∈ yW := yW_of (List.mem_append_right _ (List.mem_of_getElem? (i := 73) rfl)) rfl
set_option maxRecDepth 20000 in
theorem wq_108 : Cond.instanceMethod yX3_init ∈ yW := yW_of (List.mem_append_right _ (List.mem_of_getElem? (i := 75) rfl)) rfl
set_option maxRecDepth 20000 in
theorem wq_109 : Cond.code yX3_init cX3_init 1 none ∈ yW := yW_of (List.mem_append_right _ (List.mem_of_getElem? (i := 76) rfl)) rfl
set_option maxRecDepth 20000 in
theorem wq_110 : Cond.methodLink RX3 3 objectInit ∈ yW := yW_of (List.mem_append_right _ (List.mem_of_getElem? (i := 77) rfl)) rfl
set_option maxRecDepth 20000 in
theorem wq_111 : Cond.fieldLink RX3 9 "PackExchange$Talk" "sent" "I" ∈ yW := yW_of (List.mem_append_right _ (List.mem_of_getElem? (i := 78) rfl)) rfl
set_option maxRecDepth 20000 in
theorem wq_112 : Cond.fieldLink RX3 15 "PackExchange$Talk" "acknowledged" "I" ∈ yW := yW_of (List.mem_append_right _ (List.mem_of_getElem? (i := 79) rfl)) rfl
set_option maxRecDepth 20000 in
theorem wq_113 : Cond.fieldLink RX3 18 "PackExchange$Talk" "rounds" "I" ∈ yW := yW_of (List.mem_append_right _ (List.mem_of_getElem? (i := 80) rfl)) rfl
set_option maxRecDepth 20000 in
theorem wq_121 : Cond.classLink RX4 30 RX1 ∈ yW := yW_of (List.mem_append_right _ (List.mem_of_getElem? (i := 88) rfl)) rfl
set_option maxRecDepth 20000 in
theorem wq_122 : Cond.instantiable RX1 6 ∈ yW := yW_of (List.mem_append_right _ (List.mem_of_getElem? (i := 89) rfl)) rfl
set_option maxRecDepth 20000 in
theorem wq_124 : Cond.instanceMethod yX1_init ∈ yW := yW_of (List.mem_append_right _ (List.mem_of_getElem? (i := 91) rfl)) rfl
set_option maxRecDepth 20000 in
theorem wq_125 : Cond.code yX1_init cX1_init 1 none ∈ yW := yW_of (List.mem_append_right _ (List.mem_of_getElem? (i := 92) rfl)) rfl
set_option maxRecDepth 20000 in
theorem wq_126 : Cond.methodLink RX1 3 objectInit ∈ yW := yW_of (List.mem_append_right _ (List.mem_of_getElem? (i := 93) rfl)) rfl
set_option maxRecDepth 20000 in
theorem wq_127 : Cond.fieldLink RX1 9 "PackExchange$Pack" "objects" "[I" ∈ yW := yW_of (List.mem_append_right _ (List.mem_of_getElem? (i := 94) rfl)) rfl
set_option maxRecDepth 20000 in
theorem wq_128 : Cond.fieldLink RX1 15 "PackExchange$Pack" "bases" "[I" ∈ yW := yW_of (List.mem_append_right _ (List.mem_of_getElem? (i := 95) rfl)) rfl
set_option maxRecDepth 20000 in
theorem wq_129 : Cond.fieldLink RX1 18 "PackExchange$Pack" "chains" "[I" ∈ yW := yW_of (List.mem_append_right _ (List.mem_of_getElem? (i := 96) rfl)) rfl
set_option maxRecDepth 20000 in
theorem wq_130 : Cond.fieldLink RX1 21 "PackExchange$Pack" "members" "J" ∈ yW := yW_of (List.mem_append_right _ (List.mem_of_getElem? (i := 97) rfl)) rfl
set_option maxRecDepth 20000 in
theorem wq_131 : Cond.fieldLink RX1 25 "PackExchange$Pack" "size" "I" ∈ yW := yW_of (List.mem_append_right _ (List.mem_of_getElem? (i := 98) rfl)) rfl
set_option maxRecDepth 20000 in
theorem wq_132 : Cond.fieldLink RX1 29 "PackExchange$Pack" "total" "I" ∈ yW := yW_of (List.mem_append_right _ (List.mem_of_getElem? (i := 99) rfl)) rfl
set_option maxRecDepth 20000 in
theorem wq_146 : Cond.fieldLink RX4 10 "PackExchange" "store" "LPackExchange$Store;" ∈ yW := yW_of (List.mem_append_right _ (List.mem_of_getElem? (i := 113) rfl)) rfl
set_option maxRecDepth 20000 in
theorem wq_147 : Cond.fieldLink RX4 18 "PackExchange" "nodes" "[LPackExchange$Node;" ∈ yW := yW_of (List.mem_append_right _ (List.mem_of_getElem? (i := 114) rfl)) rfl
set_option maxRecDepth 20000 in
theorem wq_148 : Cond.fieldLink RX4 26 "PackExchange" "latestTalk" "LPackExchange$Talk;" ∈ yW := yW_of (List.mem_append_right _ (List.mem_of_getElem? (i := 115) rfl)) rfl
set_option maxRecDepth 20000 in
theorem wq_149 : Cond.fieldLink RX4 33 "PackExchange" "latestPack" "LPackExchange$Pack;" ∈ yW := yW_of (List.mem_append_right _ (List.mem_of_getElem? (i := 116) rfl)) rfl
set_option maxRecDepth 20000 in
theorem wq_150 : Cond.fieldLink RX4 37 "PackExchange" "verdicts" "[I" ∈ yW := yW_of (List.mem_append_right _ (List.mem_of_getElem? (i := 117) rfl)) rfl
set_option maxRecDepth 20000 in
theorem wq_151 : Cond.fieldLink RX4 41 "PackExchange" "targets" "[I" ∈ yW := yW_of (List.mem_append_right _ (List.mem_of_getElem? (i := 118) rfl)) rfl
set_option maxRecDepth 20000 in
theorem wq_165 : Cond.methodLink RL 13 yX4_blob ∈ yW := yW_of (List.mem_append_right _ (List.mem_of_getElem? (i := 132) rfl)) rfl
set_option maxRecDepth 20000 in
theorem wq_166 : Cond.instanceMethod yX4_blob ∈ yW := yW_of (List.mem_append_right _ (List.mem_of_getElem? (i := 133) rfl)) rfl
set_option maxRecDepth 20000 in
theorem wq_167 : Cond.selects RX4 yX4_blob yX4_blob ∈ yW := yW_of (List.mem_append_right _ (List.mem_of_getElem? (i := 134) rfl)) rfl
set_option maxRecDepth 20000 in
theorem wq_168 : Cond.code yX4_blob cX4_blob 3 (some .int) ∈ yW := yW_of (List.mem_append_right _ (List.mem_of_getElem? (i := 135) rfl)) rfl
set_option maxRecDepth 20000 in
theorem wq_169 : Cond.methodLink RX4 44 yX4_isNode ∈ yW := yW_of (List.mem_append_right _ (List.mem_of_getElem? (i := 136) rfl)) rfl
set_option maxRecDepth 20000 in
theorem wq_170 : Cond.static yX4_isNode ∈ yW := yW_of (List.mem_append_right _ (List.mem_of_getElem? (i := 137) rfl)) rfl
set_option maxRecDepth 20000 in
theorem wq_171 : Cond.code yX4_isNode cX4_isNode 1 (some .boolean) ∈ yW := yW_of (List.mem_append_right _ (List.mem_of_getElem? (i := 138) rfl)) rfl
set_option maxRecDepth 20000 in
theorem wq_172 : Cond.methodLink RX4 48 yX0_isUp ∈ yW := yW_of (List.mem_append_right _ (List.mem_of_getElem? (i := 139) rfl)) rfl
set_option maxRecDepth 20000 in
theorem wq_173 : Cond.instanceMethod yX0_isUp ∈ yW := yW_of (List.mem_append_right _ (List.mem_of_getElem? (i := 140) rfl)) rfl
set_option maxRecDepth 20000 in
theorem wq_174 : Cond.selects RX0 yX0_isUp yX0_isUp ∈ yW := yW_of (List.mem_append_right _ (List.mem_of_getElem? (i := 141) rfl)) rfl
set_option maxRecDepth 20000 in
theorem wq_175 : Cond.code yX0_isUp cX0_isUp 1 (some .boolean) ∈ yW := yW_of (List.mem_append_right _ (List.mem_of_getElem? (i := 142) rfl)) rfl
set_option maxRecDepth 20000 in
theorem wq_176 : Cond.methodLink RX4 52 yX4_writeObject ∈ yW := yW_of (List.mem_append_right _ (List.mem_of_getElem? (i := 143) rfl)) rfl
set_option maxRecDepth 20000 in
theorem wq_178 : Cond.instanceMethod yX4_writeObject ∈ yW := yW_of (List.mem_append_right _ (List.mem_of_getElem? (i := 145) rfl)) rfl
set_option maxRecDepth 20000 in
theorem wq_179 : Cond.code yX4_writeObject cX4_writeObject 7 (some .int) ∈ yW := yW_of (List.mem_append_right _ (List.mem_of_getElem? (i := 146) rfl)) rfl
set_option maxRecDepth 20000 in
theorem wq_180 : Cond.methodLink RX4 180 yX2_find ∈ yW := yW_of (List.mem_append_right _ (List.mem_of_getElem? (i := 147) rfl)) rfl
set_option maxRecDepth 20000 in
theorem wq_181 : Cond.instanceMethod yX2_find ∈ yW := yW_of (List.mem_append_right _ (List.mem_of_getElem? (i := 148) rfl)) rfl
set_option maxRecDepth 20000 in
theorem wq_182 : Cond.selects RX2 yX2_find yX2_find ∈ yW := yW_of (List.mem_append_right _ (List.mem_of_getElem? (i := 149) rfl)) rfl
set_option maxRecDepth 20000 in
theorem wq_183 : Cond.code yX2_find cX2_find 6 (some .int) ∈ yW := yW_of (List.mem_append_right _ (List.mem_of_getElem? (i := 150) rfl)) rfl
set_option maxRecDepth 20000 in
theorem wq_184 : Cond.methodLink RX4 184 yX2_isFull ∈ yW := yW_of (List.mem_append_right _ (List.mem_of_getElem? (i := 151) rfl)) rfl
set_option maxRecDepth 20000 in
theorem wq_185 : Cond.instanceMethod yX2_isFull ∈ yW := yW_of (List.mem_append_right _ (List.mem_of_getElem? (i := 152) rfl)) rfl
set_option maxRecDepth 20000 in
theorem wq_186 : Cond.selects RX2 yX2_isFull yX2_isFull ∈ yW := yW_of (List.mem_append_right _ (List.mem_of_getElem? (i := 153) rfl)) rfl
set_option maxRecDepth 20000 in
theorem wq_187 : Cond.code yX2_isFull cX2_isFull 1 (some .boolean) ∈ yW := yW_of (List.mem_append_right _ (List.mem_of_getElem? (i := 154) rfl)) rfl
set_option maxRecDepth 20000 in
theorem wq_188 : Cond.methodLink RX4 92 yX0_heldSet ∈ yW := yW_of (List.mem_append_right _ (List.mem_of_getElem? (i := 155) rfl)) rfl
set_option maxRecDepth 20000 in
theorem wq_189 : Cond.instanceMethod yX0_heldSet ∈ yW := yW_of (List.mem_append_right _ (List.mem_of_getElem? (i := 156) rfl)) rfl
set_option maxRecDepth 20000 in
theorem wq_190 : Cond.selects RX0 yX0_heldSet yX0_heldSet ∈ yW := yW_of (List.mem_append_right _ (List.mem_of_getElem? (i := 157) rfl)) rfl
set_option maxRecDepth 20000 in
theorem wq_191 : Cond.code yX0_heldSet cX0_heldSet 1 (some .long) ∈ yW := yW_of (List.mem_append_right _ (List.mem_of_getElem? (i := 158) rfl)) rfl
set_option maxRecDepth 20000 in
theorem wq_192 : Cond.methodLink RX4 149 yX4_isIn ∈ yW := yW_of (List.mem_append_right _ (List.mem_of_getElem? (i := 159) rfl)) rfl
set_option maxRecDepth 20000 in
theorem wq_193 : Cond.static yX4_isIn ∈ yW := yW_of (List.mem_append_right _ (List.mem_of_getElem? (i := 160) rfl)) rfl
set_option maxRecDepth 20000 in
theorem wq_194 : Cond.code yX4_isIn cX4_isIn 3 (some .boolean) ∈ yW := yW_of (List.mem_append_right _ (List.mem_of_getElem? (i := 161) rfl)) rfl
set_option maxRecDepth 20000 in
theorem wq_195 : Cond.methodLink RX4 187 yX0_write ∈ yW := yW_of (List.mem_append_right _ (List.mem_of_getElem? (i := 162) rfl)) rfl
set_option maxRecDepth 20000 in
theorem wq_196 : Cond.instanceMethod yX0_write ∈ yW := yW_of (List.mem_append_right _ (List.mem_of_getElem? (i := 163) rfl)) rfl
set_option maxRecDepth 20000 in
theorem wq_197 : Cond.selects RX0 yX0_write yX0_write ∈ yW := yW_of (List.mem_append_right _ (List.mem_of_getElem? (i := 164) rfl)) rfl
set_option maxRecDepth 20000 in
theorem wq_198 : Cond.code yX0_write cX0_write 1 (some .boolean) ∈ yW := yW_of (List.mem_append_right _ (List.mem_of_getElem? (i := 165) rfl)) rfl
set_option maxRecDepth 20000 in
theorem wq_199 : Cond.methodLink RX4 190 yX2_add ∈ yW := yW_of (List.mem_append_right _ (List.mem_of_getElem? (i := 166) rfl)) rfl
set_option maxRecDepth 20000 in
theorem wq_200 : Cond.instanceMethod yX2_add ∈ yW := yW_of (List.mem_append_right _ (List.mem_of_getElem? (i := 167) rfl)) rfl
set_option maxRecDepth 20000 in
theorem wq_201 : Cond.selects RX2 yX2_add yX2_add ∈ yW := yW_of (List.mem_append_right _ (List.mem_of_getElem? (i := 168) rfl)) rfl
set_option maxRecDepth 20000 in
theorem wq_202 : Cond.code yX2_add cX2_add 8 (some .int) ∈ yW := yW_of (List.mem_append_right _ (List.mem_of_getElem? (i := 169) rfl)) rfl
set_option maxRecDepth 20000 in
theorem wq_203 : Cond.methodLink RX2 36 yX2_isFull ∈ yW := yW_of (List.mem_append_right _ (List.mem_of_getElem? (i := 170) rfl)) rfl
set_option maxRecDepth 20000 in
theorem wq_204 : Cond.methodLink RX2 40 yX2_reachOf ∈ yW := yW_of (List.mem_append_right _ (List.mem_of_getElem? (i := 171) rfl)) rfl
set_option maxRecDepth 20000 in
theorem wq_205 : Cond.instanceMethod yX2_reachOf ∈ yW := yW_of (List.mem_append_right _ (List.mem_of_getElem? (i := 172) rfl)) rfl
set_option maxRecDepth 20000 in
theorem wq_206 : Cond.selects RX2 yX2_reachOf yX2_reachOf ∈ yW := yW_of (List.mem_append_right _ (List.mem_of_getElem? (i := 173) rfl)) rfl
set_option maxRecDepth 20000 in
theorem wq_207 : Cond.code yX2_reachOf cX2_reachOf 2 (some .long) ∈ yW := yW_of (List.mem_append_right _ (List.mem_of_getElem? (i := 174) rfl)) rfl
set_option maxRecDepth 20000 in
theorem wq_208 : Cond.methodLink RX2 32 yX2_isNumber ∈ yW := yW_of (List.mem_append_right _ (List.mem_of_getElem? (i := 175) rfl)) rfl
set_option maxRecDepth 20000 in
theorem wq_210 : Cond.instanceMethod yX2_isNumber ∈ yW := yW_of (List.mem_append_right _ (List.mem_of_getElem? (i := 177) rfl)) rfl
set_option maxRecDepth 20000 in
theorem wq_211 : Cond.code yX2_isNumber cX2_isNumber 2 (some .boolean) ∈ yW := yW_of (List.mem_append_right _ (List.mem_of_getElem? (i := 178) rfl)) rfl
set_option maxRecDepth 20000 in
theorem wq_212 : Cond.methodLink RX4 193 yX0_keep ∈ yW := yW_of (List.mem_append_right _ (List.mem_of_getElem? (i := 179) rfl)) rfl
set_option maxRecDepth 20000 in
theorem wq_213 : Cond.instanceMethod yX0_keep ∈ yW := yW_of (List.mem_append_right _ (List.mem_of_getElem? (i := 180) rfl)) rfl
set_option maxRecDepth 20000 in
theorem wq_214 : Cond.selects RX0 yX0_keep yX0_keep ∈ yW := yW_of (List.mem_append_right _ (List.mem_of_getElem? (i := 181) rfl)) rfl
set_option maxRecDepth 20000 in
theorem wq_215 : Cond.code yX0_keep cX0_keep 2 none ∈ yW := yW_of (List.mem_append_right _ (List.mem_of_getElem? (i := 182) rfl)) rfl
set_option maxRecDepth 20000 in
theorem wq_216 : Cond.methodLink RL 18 yX4_tree ∈ yW := yW_of (List.mem_append_right _ (List.mem_of_getElem? (i := 183) rfl)) rfl
set_option maxRecDepth 20000 in
theorem wq_217 : Cond.instanceMethod yX4_tree ∈ yW := yW_of (List.mem_append_right _ (List.mem_of_getElem? (i := 184) rfl)) rfl
set_option maxRecDepth 20000 in
theorem wq_218 : Cond.selects RX4 yX4_tree yX4_tree ∈ yW := yW_of (List.mem_append_right _ (List.mem_of_getElem? (i := 185) rfl)) rfl
set_option maxRecDepth 20000 in
theorem wq_219 : Cond.code yX4_tree cX4_tree 5 (some .int) ∈ yW := yW_of (List.mem_append_right _ (List.mem_of_getElem? (i := 186) rfl)) rfl
set_option maxRecDepth 20000 in
theorem wq_220 : Cond.methodLink RX4 56 yX4_isEntry ∈ yW := yW_of (List.mem_append_right _ (List.mem_of_getElem? (i := 187) rfl)) rfl
set_option maxRecDepth 20000 in
theorem wq_222 : Cond.instanceMethod yX4_isEntry ∈ yW := yW_of (List.mem_append_right _ (List.mem_of_getElem? (i := 189) rfl)) rfl
set_option maxRecDepth 20000 in
theorem wq_223 : Cond.code yX4_isEntry cX4_isEntry 3 (some .boolean) ∈ yW := yW_of (List.mem_append_right _ (List.mem_of_getElem? (i := 190) rfl)) rfl
set_option maxRecDepth 20000 in
theorem wq_224 : Cond.methodLink RX4 67 yX4_holdsKind ∈ yW := yW_of (List.mem_append_right _ (List.mem_of_getElem? (i := 191) rfl)) rfl
set_option maxRecDepth 20000 in
theorem wq_226 : Cond.instanceMethod yX4_holdsKind ∈ yW := yW_of (List.mem_append_right _ (List.mem_of_getElem? (i := 193) rfl)) rfl
set_option maxRecDepth 20000 in
theorem wq_227 : Cond.code yX4_holdsKind cX4_holdsKind 4 (some .boolean) ∈ yW := yW_of (List.mem_append_right _ (List.mem_of_getElem? (i := 194) rfl)) rfl
set_option maxRecDepth 20000 in
theorem wq_228 : Cond.methodLink RX4 176 yX2_isOfKind ∈ yW := yW_of (List.mem_append_right _ (List.mem_of_getElem? (i := 195) rfl)) rfl
set_option maxRecDepth 20000 in
theorem wq_229 : Cond.instanceMethod yX2_isOfKind ∈ yW := yW_of (List.mem_append_right _ (List.mem_of_getElem? (i := 196) rfl)) rfl
set_option maxRecDepth 20000 in
theorem wq_230 : Cond.selects RX2 yX2_isOfKind yX2_isOfKind ∈ yW := yW_of (List.mem_append_right _ (List.mem_of_getElem? (i := 197) rfl)) rfl
set_option maxRecDepth 20000 in
theorem wq_231 : Cond.code yX2_isOfKind cX2_isOfKind 3 (some .boolean) ∈ yW := yW_of (List.mem_append_right _ (List.mem_of_getElem? (i := 198) rfl)) rfl
set_option maxRecDepth 20000 in
theorem wq_232 : Cond.methodLink RL 23 yX4_commit ∈ yW := yW_of (List.mem_append_right _ (List.mem_of_getElem? (i := 199) rfl)) rfl
set_option maxRecDepth 20000 in
theorem wq_233 : Cond.instanceMethod yX4_commit ∈ yW := yW_of (List.mem_append_right _ (List.mem_of_getElem? (i := 200) rfl)) rfl
set_option maxRecDepth 20000 in
theorem wq_234 : Cond.selects RX4 yX4_commit yX4_commit ∈ yW := yW_of (List.mem_append_right _ (List.mem_of_getElem? (i := 201) rfl)) rfl
set_option maxRecDepth 20000 in
theorem wq_235 : Cond.code yX4_commit cX4_commit 8 (some .int) ∈ yW := yW_of (List.mem_append_right _ (List.mem_of_getElem? (i := 202) rfl)) rfl
set_option maxRecDepth 20000 in
theorem wq_236 : Cond.methodLink RX4 60 yX4_isOwnReference ∈ yW := yW_of (List.mem_append_right _ (List.mem_of_getElem? (i := 203) rfl)) rfl
set_option maxRecDepth 20000 in
theorem wq_237 : Cond.static yX4_isOwnReference ∈ yW := yW_of (List.mem_append_right _ (List.mem_of_getElem? (i := 204) rfl)) rfl
set_option maxRecDepth 20000 in
theorem wq_238 : Cond.code yX4_isOwnReference cX4_isOwnReference 1 (some .boolean) ∈ yW := yW_of (List.mem_append_right _ (List.mem_of_getElem? (i := 205) rfl)) rfl
set_option maxRecDepth 20000 in
theorem wq_239 : Cond.methodLink RX4 63 yX0_valueOf ∈ yW := yW_of (List.mem_append_right _ (List.mem_of_getElem? (i := 206) rfl)) rfl
set_option maxRecDepth 20000 in
theorem wq_240 : Cond.instanceMethod yX0_valueOf ∈ yW := yW_of (List.mem_append_right _ (List.mem_of_getElem? (i := 207) rfl)) rfl
set_option maxRecDepth 20000 in
theorem wq_241 : Cond.selects RX0 yX0_valueOf yX0_valueOf ∈ yW := yW_of (List.mem_append_right _ (List.mem_of_getElem? (i := 208) rfl)) rfl
set_option maxRecDepth 20000 in
theorem wq_242 : Cond.code yX0_valueOf cX0_valueOf 2 (some .int) ∈ yW := yW_of (List.mem_append_right _ (List.mem_of_getElem? (i := 209) rfl)) rfl
set_option maxRecDepth 20000 in
theorem wq_243 : Cond.methodLink RX4 71 yX4_isCommitOrAbsent ∈ yW := yW_of (List.mem_append_right _ (List.mem_of_getElem? (i := 210) rfl)) rfl
set_option maxRecDepth 20000 in
theorem wq_245 : Cond.instanceMethod yX4_isCommitOrAbsent ∈ yW := yW_of (List.mem_append_right _ (List.mem_of_getElem? (i := 212) rfl)) rfl
set_option maxRecDepth 20000 in
theorem wq_246 : Cond.code yX4_isCommitOrAbsent cX4_isCommitOrAbsent 3 (some .boolean) ∈ yW := yW_of (List.mem_append_right _ (List.mem_of_getElem? (i := 213) rfl)) rfl
set_option maxRecDepth 20000 in
theorem wq_247 : Cond.methodLink RX4 74 yX4_aimAtOne ∈ yW := yW_of (List.mem_append_right _ (List.mem_of_getElem? (i := 214) rfl)) rfl
set_option maxRecDepth 20000 in
theorem wq_249 : Cond.instanceMethod yX4_aimAtOne ∈ yW := yW_of (List.mem_append_right _ (List.mem_of_getElem? (i := 216) rfl)) rfl
set_option maxRecDepth 20000 in
theorem wq_250 : Cond.code yX4_aimAtOne cX4_aimAtOne 3 none ∈ yW := yW_of (List.mem_append_right _ (List.mem_of_getElem? (i := 217) rfl)) rfl
set_option maxRecDepth 20000 in
theorem wq_251 : Cond.methodLink RX4 196 yX4_clearTargets ∈ yW := yW_of (List.mem_append_right _ (List.mem_of_getElem? (i := 218) rfl)) rfl
set_option maxRecDepth 20000 in
theorem wq_253 : Cond.instanceMethod yX4_clearTargets ∈ yW := yW_of (List.mem_append_right _ (List.mem_of_getElem? (i := 220) rfl)) rfl
set_option maxRecDepth 20000 in
theorem wq_254 : Cond.code yX4_clearTargets cX4_clearTargets 2 none ∈ yW := yW_of (List.mem_append_right _ (List.mem_of_getElem? (i := 221) rfl)) rfl
set_option maxRecDepth 20000 in
theorem wq_255 : Cond.methodLink RX4 78 yX0_transact ∈ yW := yW_of (List.mem_append_right _ (List.mem_of_getElem? (i := 222) rfl)) rfl
set_option maxRecDepth 20000 in
theorem wq_256 : Cond.instanceMethod yX0_transact ∈ yW := yW_of (List.mem_append_right _ (List.mem_of_getElem? (i := 223) rfl)) rfl
set_option maxRecDepth 20000 in
theorem wq_257 : Cond.selects RX0 yX0_transact yX0_transact ∈ yW := yW_of (List.mem_append_right _ (List.mem_of_getElem? (i := 224) rfl)) rfl
set_option maxRecDepth 20000 in
theorem wq_258 : Cond.code yX0_transact cX0_transact 3 (some .boolean) ∈ yW := yW_of (List.mem_append_right _ (List.mem_of_getElem? (i := 225) rfl)) rfl
set_option maxRecDepth 20000 in
theorem wq_259 : Cond.methodLink RX0 48 yX0_write ∈ yW := yW_of (List.mem_append_right _ (List.mem_of_getElem? (i := 226) rfl)) rfl
set_option maxRecDepth 20000 in
theorem wq_260 : Cond.methodLink RX0 60 yX0_carryOutLog ∈ yW := yW_of (List.mem_append_right _ (List.mem_of_getElem? (i := 227) rfl)) rfl
set_option maxRecDepth 20000 in
theorem wq_262 : Cond.instanceMethod yX0_carryOutLog ∈ yW := yW_of (List.mem_append_right _ (List.mem_of_getElem? (i := 229) rfl)) rfl
set_option maxRecDepth 20000 in
theorem wq_263 : Cond.code yX0_carryOutLog cX0_carryOutLog 2 (some .boolean) ∈ yW := yW_of (List.mem_append_right _ (List.mem_of_getElem? (i := 230) rfl)) rfl
set_option maxRecDepth 20000 in
theorem wq_264 : Cond.methodLink RX0 63 yX0_emptyLog ∈ yW := yW_of (List.mem_append_right _ (List.mem_of_getElem? (i := 231) rfl)) rfl
set_option maxRecDepth 20000 in
theorem wq_266 : Cond.instanceMethod yX0_emptyLog ∈ yW := yW_of (List.mem_append_right _ (List.mem_of_getElem? (i := 233) rfl)) rfl
set_option maxRecDepth 20000 in
theorem wq_267 : Cond.code yX0_emptyLog cX0_emptyLog 2 (some .boolean) ∈ yW := yW_of (List.mem_append_right _ (List.mem_of_getElem? (i := 234) rfl)) rfl
set_option maxRecDepth 20000 in
theorem wq_268 : Cond.methodLink RL 28 yX4_point ∈ yW := yW_of (List.mem_append_right _ (List.mem_of_getElem? (i := 235) rfl)) rfl
set_option maxRecDepth 20000 in
theorem wq_269 : Cond.instanceMethod yX4_point ∈ yW := yW_of (List.mem_append_right _ (List.mem_of_getElem? (i := 236) rfl)) rfl
set_option maxRecDepth 20000 in
theorem wq_270 : Cond.selects RX4 yX4_point yX4_point ∈ yW := yW_of (List.mem_append_right _ (List.mem_of_getElem? (i := 237) rfl)) rfl
set_option maxRecDepth 20000 in
theorem wq_271 : Cond.code yX4_point cX4_point 5 (some .int) ∈ yW := yW_of (List.mem_append_right _ (List.mem_of_getElem? (i := 238) rfl)) rfl
set_option maxRecDepth 20000 in
theorem wq_272 : Cond.methodLink RL 32 yX4_fetch ∈ yW := yW_of (List.mem_append_right _ (List.mem_of_getElem? (i := 239) rfl)) rfl
set_option maxRecDepth 20000 in
theorem wq_273 : Cond.instanceMethod yX4_fetch ∈ yW := yW_of (List.mem_append_right _ (List.mem_of_getElem? (i := 240) rfl)) rfl
set_option maxRecDepth 20000 in
theorem wq_274 : Cond.selects RX4 yX4_fetch yX4_fetch ∈ yW := yW_of (List.mem_append_right _ (List.mem_of_getElem? (i := 241) rfl)) rfl
set_option maxRecDepth 20000 in
theorem wq_275 : Cond.code yX4_fetch cX4_fetch 11 (some .int) ∈ yW := yW_of (List.mem_append_right _ (List.mem_of_getElem? (i := 242) rfl)) rfl
set_option maxRecDepth 20000 in
theorem wq_276 : Cond.methodLink RX4 82 yX4_isClient ∈ yW := yW_of (List.mem_append_right _ (List.mem_of_getElem? (i := 243) rfl)) rfl
set_option maxRecDepth 20000 in
theorem wq_277 : Cond.static yX4_isClient ∈ yW := yW_of (List.mem_append_right _ (List.mem_of_getElem? (i := 244) rfl)) rfl
set_option maxRecDepth 20000 in
theorem wq_278 : Cond.code yX4_isClient cX4_isClient 1 (some .boolean) ∈ yW := yW_of (List.mem_append_right _ (List.mem_of_getElem? (i := 245) rfl)) rfl
set_option maxRecDepth 20000 in
theorem wq_279 : Cond.methodLink RX4 85 yX4_isSet ∈ yW := yW_of (List.mem_append_right _ (List.mem_of_getElem? (i := 246) rfl)) rfl
set_option maxRecDepth 20000 in
theorem wq_280 : Cond.static yX4_isSet ∈ yW := yW_of (List.mem_append_right _ (List.mem_of_getElem? (i := 247) rfl)) rfl
set_option maxRecDepth 20000 in
theorem wq_281 : Cond.code yX4_isSet cX4_isSet 1 (some .boolean) ∈ yW := yW_of (List.mem_append_right _ (List.mem_of_getElem? (i := 248) rfl)) rfl
set_option maxRecDepth 20000 in
theorem wq_282 : Cond.methodLink RX4 88 yX0_commitsOf ∈ yW := yW_of (List.mem_append_right _ (List.mem_of_getElem? (i := 249) rfl)) rfl
set_option maxRecDepth 20000 in
theorem wq_283 : Cond.instanceMethod yX0_commitsOf ∈ yW := yW_of (List.mem_append_right _ (List.mem_of_getElem? (i := 250) rfl)) rfl
set_option maxRecDepth 20000 in
theorem wq_284 : Cond.selects RX0 yX0_commitsOf yX0_commitsOf ∈ yW := yW_of (List.mem_append_right _ (List.mem_of_getElem? (i := 251) rfl)) rfl
set_option maxRecDepth 20000 in
theorem wq_285 : Cond.code yX0_commitsOf cX0_commitsOf 5 (some .long) ∈ yW := yW_of (List.mem_append_right _ (List.mem_of_getElem? (i := 252) rfl)) rfl
set_option maxRecDepth 20000 in
theorem wq_287 : Cond.static yX4_isChosen ∈ yW := yW_of (List.mem_append_right _ (List.mem_of_getElem? (i := 254) rfl)) rfl
set_option maxRecDepth 20000 in
theorem wq_288 : Cond.code yX4_isChosen cX4_isChosen 2 (some .boolean) ∈ yW := yW_of (List.mem_append_right _ (List.mem_of_getElem? (i := 255) rfl)) rfl
set_option maxRecDepth 20000 in
theorem wq_289 : Cond.constantLong RX4 96 (-1) ∈ yW := yW_of (List.mem_append_right _ (List.mem_of_getElem? (i := 256) rfl)) rfl
set_option maxRecDepth 20000 in
theorem wq_290 : Cond.methodLink RX4 98 yX2_reachOfAll ∈ yW := yW_of (List.mem_append_right _ (List.mem_of_getElem? (i := 257) rfl)) rfl
set_option maxRecDepth 20000 in
theorem wq_291 : Cond.instanceMethod yX2_reachOfAll ∈ yW := yW_of (List.mem_append_right _ (List.mem_of_getElem? (i := 258) rfl)) rfl
set_option maxRecDepth 20000 in
theorem wq_292 : Cond.selects RX2 yX2_reachOfAll yX2_reachOfAll ∈ yW := yW_of (List.mem_append_right _ (List.mem_of_getElem? (i := 259) rfl)) rfl
set_option maxRecDepth 20000 in
theorem wq_293 : Cond.code yX2_reachOfAll cX2_reachOfAll 6 (some .long) ∈ yW := yW_of (List.mem_append_right _ (List.mem_of_getElem? (i := 260) rfl)) rfl
set_option maxRecDepth 20000 in
theorem wq_295 : Cond.methodLink RX4 102 yX2_allOfKind ∈ yW := yW_of (List.mem_append_right _ (List.mem_of_getElem? (i := 262) rfl)) rfl
set_option maxRecDepth 20000 in
theorem wq_296 : Cond.instanceMethod yX2_allOfKind ∈ yW := yW_of (List.mem_append_right _ (List.mem_of_getElem? (i := 263) rfl)) rfl
set_option maxRecDepth 20000 in
theorem wq_297 : Cond.selects RX2 yX2_allOfKind yX2_allOfKind ∈ yW := yW_of (List.mem_append_right _ (List.mem_of_getElem? (i := 264) rfl)) rfl
set_option maxRecDepth 20000 in
theorem wq_298 : Cond.code yX2_allOfKind cX2_allOfKind 5 (some .long) ∈ yW := yW_of (List.mem_append_right _ (List.mem_of_getElem? (i := 265) rfl)) rfl
set_option maxRecDepth 20000 in
theorem wq_299 : Cond.methodLink RX4 105 yX3_run ∈ yW := yW_of (List.mem_append_right _ (List.mem_of_getElem? (i := 266) rfl)) rfl
set_option maxRecDepth 20000 in
theorem wq_300 : Cond.instanceMethod yX3_run ∈ yW := yW_of (List.mem_append_right _ (List.mem_of_getElem? (i := 267) rfl)) rfl
set_option maxRecDepth 20000 in
theorem wq_301 : Cond.selects RX3 yX3_run yX3_run ∈ yW := yW_of (List.mem_append_right _ (List.mem_of_getElem? (i := 268) rfl)) rfl
set_option maxRecDepth 20000 in
theorem wq_302 : Cond.code yX3_run cX3_run 14 (some .long) ∈ yW := yW_of (List.mem_append_right _ (List.mem_of_getElem? (i := 269) rfl)) rfl
set_option maxRecDepth 20000 in
theorem wq_303 : Cond.methodLink RX3 21 yX2_eachReachesOne ∈ yW := yW_of (List.mem_append_right _ (List.mem_of_getElem? (i := 270) rfl)) rfl
set_option maxRecDepth 20000 in
theorem wq_304 : Cond.instanceMethod yX2_eachReachesOne ∈ yW := yW_of (List.mem_append_right _ (List.mem_of_getElem? (i := 271) rfl)) rfl
set_option maxRecDepth 20000 in
theorem wq_305 : Cond.selects RX2 yX2_eachReachesOne yX2_eachReachesOne ∈ yW := yW_of (List.mem_append_right _ (List.mem_of_getElem? (i := 272) rfl)) rfl
set_option maxRecDepth 20000 in
theorem wq_306 : Cond.code yX2_eachReachesOne cX2_eachReachesOne 6 (some .boolean) ∈ yW := yW_of (List.mem_append_right _ (List.mem_of_getElem? (i := 273) rfl)) rfl
set_option maxRecDepth 20000 in
theorem wq_307 : Cond.methodLink RX3 27 yX3_highest ∈ yW := yW_of (List.mem_append_right _ (List.mem_of_getElem? (i := 274) rfl)) rfl
set_option maxRecDepth 20000 in
theorem wq_308 : Cond.static yX3_highest ∈ yW := yW_of (List.mem_append_right _ (List.mem_of_getElem? (i := 275) rfl)) rfl
set_option maxRecDepth 20000 in
theorem wq_309 : Cond.code yX3_highest cX3_highest 6 (some .long) ∈ yW := yW_of (List.mem_append_right _ (List.mem_of_getElem? (i := 276) rfl)) rfl
set_option maxRecDepth 20000 in
theorem wq_311 : Cond.methodLink RX3 31 yJL_bitCount ∈ yW := yW_of (List.mem_append_right _ (List.mem_of_getElem? (i := 278) rfl)) rfl
set_option maxRecDepth 20000 in
theorem wq_312 : Cond.static yJL_bitCount ∈ yW := yW_of (List.mem_append_right _ (List.mem_of_getElem? (i := 279) rfl)) rfl
set_option maxRecDepth 20000 in
theorem wq_313 : Cond.code yJL_bitCount cJL_bitCount 2 (some .int) ∈ yW := yW_of (List.mem_append_right _ (List.mem_of_getElem? (i := 280) rfl)) rfl
set_option maxRecDepth 20000 in
theorem wq_314 : Cond.constantLong RJL 314 6148914691236517205 ∈ yW := yW_of (List.mem_append_right _ (List.mem_of_getElem? (i := 281) rfl)) rfl
set_option maxRecDepth 20000 in
theorem wq_315 : Cond.constantLong RJL 316 3689348814741910323 ∈ yW := yW_of (List.mem_append_right _ (List.mem_of_getElem? (i := 282) rfl)) rfl
set_option maxRecDepth 20000 in
theorem wq_316 : Cond.constantLong RJL 318 1085102592571150095 ∈ yW := yW_of (List.mem_append_right _ (List.mem_of_getElem? (i := 283) rfl)) rfl
set_option maxRecDepth 20000 in
theorem wq_317 : Cond.methodLink RX3 37 yX2_reachOfAll ∈ yW := yW_of (List.mem_append_right _ (List.mem_of_getElem? (i := 284) rfl)) rfl
set_option maxRecDepth 20000 in
theorem wq_318 : Cond.constantLong RX3 40 (-1) ∈ yW := yW_of (List.mem_append_right _ (List.mem_of_getElem? (i := 285) rfl)) rfl
set_option maxRecDepth 20000 in
theorem wq_319 : Cond.methodLink RX4 109 yX1_fill ∈ yW := yW_of (List.mem_append_right _ (List.mem_of_getElem? (i := 286) rfl)) rfl
set_option maxRecDepth 20000 in
theorem wq_320 : Cond.instanceMethod yX1_fill ∈ yW := yW_of (List.mem_append_right _ (List.mem_of_getElem? (i := 287) rfl)) rfl
set_option maxRecDepth 20000 in
theorem wq_321 : Cond.selects RX1 yX1_fill yX1_fill ∈ yW := yW_of (List.mem_append_right _ (List.mem_of_getElem? (i := 288) rfl)) rfl
set_option maxRecDepth 20000 in
theorem wq_322 : Cond.code yX1_fill cX1_fill 4 none ∈ yW := yW_of (List.mem_append_right _ (List.mem_of_getElem? (i := 289) rfl)) rfl
set_option maxRecDepth 20000 in
theorem wq_323 : Cond.methodLink RX1 32 yX1_placeKind ∈ yW := yW_of (List.mem_append_right _ (List.mem_of_getElem? (i := 290) rfl)) rfl
set_option maxRecDepth 20000 in
theorem wq_325 : Cond.instanceMethod yX1_placeKind ∈ yW := yW_of (List.mem_append_right _ (List.mem_of_getElem? (i := 292) rfl)) rfl
set_option maxRecDepth 20000 in
theorem wq_326 : Cond.code yX1_placeKind cX1_placeKind 5 none ∈ yW := yW_of (List.mem_append_right _ (List.mem_of_getElem? (i := 293) rfl)) rfl
set_option maxRecDepth 20000 in
theorem wq_328 : Cond.methodLink RX1 44 yX2_isOfKind ∈ yW := yW_of (List.mem_append_right _ (List.mem_of_getElem? (i := 295) rfl)) rfl
set_option maxRecDepth 20000 in
theorem wq_329 : Cond.methodLink RX1 50 yX1_chooseBase ∈ yW := yW_of (List.mem_append_right _ (List.mem_of_getElem? (i := 296) rfl)) rfl
set_option maxRecDepth 20000 in
theorem wq_331 : Cond.instanceMethod yX1_chooseBase ∈ yW := yW_of (List.mem_append_right _ (List.mem_of_getElem? (i := 298) rfl)) rfl
set_option maxRecDepth 20000 in
theorem wq_332 : Cond.code yX1_chooseBase cX1_chooseBase 7 (some .int) ∈ yW := yW_of (List.mem_append_right _ (List.mem_of_getElem? (i := 299) rfl)) rfl
set_option maxRecDepth 20000 in
theorem wq_333 : Cond.methodLink RX1 58 yX2_contentOf ∈ yW := yW_of (List.mem_append_right _ (List.mem_of_getElem? (i := 300) rfl)) rfl
set_option maxRecDepth 20000 in
theorem wq_334 : Cond.instanceMethod yX2_contentOf ∈ yW := yW_of (List.mem_append_right _ (List.mem_of_getElem? (i := 301) rfl)) rfl
set_option maxRecDepth 20000 in
theorem wq_335 : Cond.selects RX2 yX2_contentOf yX2_contentOf ∈ yW := yW_of (List.mem_append_right _ (List.mem_of_getElem? (i := 302) rfl)) rfl
set_option maxRecDepth 20000 in
theorem wq_336 : Cond.code yX2_contentOf cX2_contentOf 2 (some .int) ∈ yW := yW_of (List.mem_append_right _ (List.mem_of_getElem? (i := 303) rfl)) rfl
set_option maxRecDepth 20000 in
theorem wq_337 : Cond.methodLink RX1 61 yX1_differingDigits ∈ yW := yW_of (List.mem_append_right _ (List.mem_of_getElem? (i := 304) rfl)) rfl
set_option maxRecDepth 20000 in
theorem wq_338 : Cond.static yX1_differingDigits ∈ yW := yW_of (List.mem_append_right _ (List.mem_of_getElem? (i := 305) rfl)) rfl
set_option maxRecDepth 20000 in
theorem wq_339 : Cond.code yX1_differingDigits cX1_differingDigits 5 (some .int) ∈ yW := yW_of (List.mem_append_right _ (List.mem_of_getElem? (i := 306) rfl)) rfl
set_option maxRecDepth 20000 in
theorem wq_340 : Cond.methodLink RX1 54 yX2_partsOf ∈ yW := yW_of (List.mem_append_right _ (List.mem_of_getElem? (i := 307) rfl)) rfl
set_option maxRecDepth 20000 in
theorem wq_341 : Cond.instanceMethod yX2_partsOf ∈ yW := yW_of (List.mem_append_right _ (List.mem_of_getElem? (i := 308) rfl)) rfl
set_option maxRecDepth 20000 in
theorem wq_342 : Cond.selects RX2 yX2_partsOf yX2_partsOf ∈ yW := yW_of (List.mem_append_right _ (List.mem_of_getElem? (i := 309) rfl)) rfl
set_option maxRecDepth 20000 in
theorem wq_343 : Cond.code yX2_partsOf cX2_partsOf 2 (some .int) ∈ yW := yW_of (List.mem_append_right _ (List.mem_of_getElem? (i := 310) rfl)) rfl
set_option maxRecDepth 20000 in
theorem wq_344 : Cond.methodLink RX4 113 yX1_memberSet ∈ yW := yW_of (List.mem_append_right _ (List.mem_of_getElem? (i := 311) rfl)) rfl
set_option maxRecDepth 20000 in
theorem wq_345 : Cond.instanceMethod yX1_memberSet ∈ yW := yW_of (List.mem_append_right _ (List.mem_of_getElem? (i := 312) rfl)) rfl
set_option maxRecDepth 20000 in
theorem wq_346 : Cond.selects RX1 yX1_memberSet yX1_memberSet ∈ yW := yW_of (List.mem_append_right _ (List.mem_of_getElem? (i := 313) rfl)) rfl
set_option maxRecDepth 20000 in
theorem wq_347 : Cond.code yX1_memberSet cX1_memberSet 1 (some .long) ∈ yW := yW_of (List.mem_append_right _ (List.mem_of_getElem? (i := 314) rfl)) rfl
set_option maxRecDepth 20000 in
theorem wq_348 : Cond.methodLink RX4 116 yX0_writeMissing ∈ yW := yW_of (List.mem_append_right _ (List.mem_of_getElem? (i := 315) rfl)) rfl
set_option maxRecDepth 20000 in
theorem wq_349 : Cond.instanceMethod yX0_writeMissing ∈ yW := yW_of (List.mem_append_right _ (List.mem_of_getElem? (i := 316) rfl)) rfl
set_option maxRecDepth 20000 in
theorem wq_350 : Cond.selects RX0 yX0_writeMissing yX0_writeMissing ∈ yW := yW_of (List.mem_append_right _ (List.mem_of_getElem? (i := 317) rfl)) rfl
set_option maxRecDepth 20000 in
theorem wq_351 : Cond.code yX0_writeMissing cX0_writeMissing 6 (some .boolean) ∈ yW := yW_of (List.mem_append_right _ (List.mem_of_getElem? (i := 318) rfl)) rfl
set_option maxRecDepth 20000 in
theorem wq_352 : Cond.constantLong RX0 42 (-1) ∈ yW := yW_of (List.mem_append_right _ (List.mem_of_getElem? (i := 319) rfl)) rfl
set_option maxRecDepth 20000 in
theorem wq_354 : Cond.methodLink RX0 52 yX0_keep ∈ yW := yW_of (List.mem_append_right _ (List.mem_of_getElem? (i := 321) rfl)) rfl
set_option maxRecDepth 20000 in
theorem wq_355 : Cond.methodLink RX4 120 yX4_aimAtValues ∈ yW := yW_of (List.mem_append_right _ (List.mem_of_getElem? (i := 322) rfl)) rfl
set_option maxRecDepth 20000 in
theorem wq_357 : Cond.instanceMethod yX4_aimAtValues ∈ yW := yW_of (List.mem_append_right _ (List.mem_of_getElem? (i := 324) rfl)) rfl
set_option maxRecDepth 20000 in
theorem wq_358 : Cond.code yX4_aimAtValues cX4_aimAtValues 5 none ∈ yW := yW_of (List.mem_append_right _ (List.mem_of_getElem? (i := 325) rfl)) rfl
set_option maxRecDepth 20000 in
theorem wq_359 : Cond.methodLink RX4 199 yX4_isChosen ∈ yW := yW_of (List.mem_append_right _ (List.mem_of_getElem? (i := 326) rfl)) rfl
set_option maxRecDepth 20000 in
theorem wq_360 : Cond.methodLink RX4 124 yX1_length ∈ yW := yW_of (List.mem_append_right _ (List.mem_of_getElem? (i := 327) rfl)) rfl
set_option maxRecDepth 20000 in
theorem wq_361 : Cond.instanceMethod yX1_length ∈ yW := yW_of (List.mem_append_right _ (List.mem_of_getElem? (i := 328) rfl)) rfl
set_option maxRecDepth 20000 in
theorem wq_362 : Cond.selects RX1 yX1_length yX1_length ∈ yW := yW_of (List.mem_append_right _ (List.mem_of_getElem? (i := 329) rfl)) rfl
set_option maxRecDepth 20000 in
theorem wq_363 : Cond.code yX1_length cX1_length 1 (some .int) ∈ yW := yW_of (List.mem_append_right _ (List.mem_of_getElem? (i := 330) rfl)) rfl
set_option maxRecDepth 20000 in
theorem wq_364 : Cond.methodLink RL 36 yX4_push ∈ yW := yW_of (List.mem_append_right _ (List.mem_of_getElem? (i := 331) rfl)) rfl
set_option maxRecDepth 20000 in
theorem wq_365 : Cond.instanceMethod yX4_push ∈ yW := yW_of (List.mem_append_right _ (List.mem_of_getElem? (i := 332) rfl)) rfl
set_option maxRecDepth 20000 in
theorem wq_366 : Cond.selects RX4 yX4_push yX4_push ∈ yW := yW_of (List.mem_append_right _ (List.mem_of_getElem? (i := 333) rfl)) rfl
set_option maxRecDepth 20000 in
theorem wq_367 : Cond.code yX4_push cX4_push 7 (some .int) ∈ yW := yW_of (List.mem_append_right _ (List.mem_of_getElem? (i := 334) rfl)) rfl
set_option maxRecDepth 20000 in
theorem wq_368 : Cond.methodLink RX4 128 yX0_hasValues ∈ yW := yW_of (List.mem_append_right _ (List.mem_of_getElem? (i := 335) rfl)) rfl
set_option maxRecDepth 20000 in
theorem wq_369 : Cond.instanceMethod yX0_hasValues ∈ yW := yW_of (List.mem_append_right _ (List.mem_of_getElem? (i := 336) rfl)) rfl
set_option maxRecDepth 20000 in
theorem wq_370 : Cond.selects RX0 yX0_hasValues yX0_hasValues ∈ yW := yW_of (List.mem_append_right _ (List.mem_of_getElem? (i := 337) rfl)) rfl
set_option maxRecDepth 20000 in
theorem wq_371 : Cond.code yX0_hasValues cX0_hasValues 3 (some .boolean) ∈ yW := yW_of (List.mem_append_right _ (List.mem_of_getElem? (i := 338) rfl)) rfl
set_option maxRecDepth 20000 in
theorem wq_372 : Cond.methodLink RX4 131 yX4_judge ∈ yW := yW_of (List.mem_append_right _ (List.mem_of_getElem? (i := 339) rfl)) rfl
set_option maxRecDepth 20000 in
theorem wq_374 : Cond.instanceMethod yX4_judge ∈ yW := yW_of (List.mem_append_right _ (List.mem_of_getElem? (i := 341) rfl)) rfl
set_option maxRecDepth 20000 in
theorem wq_375 : Cond.code yX4_judge cX4_judge 6 (some .boolean) ∈ yW := yW_of (List.mem_append_right _ (List.mem_of_getElem? (i := 342) rfl)) rfl
set_option maxRecDepth 20000 in
theorem wq_376 : Cond.methodLink RX4 202 yX4_verdictOn ∈ yW := yW_of (List.mem_append_right _ (List.mem_of_getElem? (i := 343) rfl)) rfl
set_option maxRecDepth 20000 in
theorem wq_378 : Cond.instanceMethod yX4_verdictOn ∈ yW := yW_of (List.mem_append_right _ (List.mem_of_getElem? (i := 345) rfl)) rfl
set_option maxRecDepth 20000 in
theorem wq_379 : Cond.code yX4_verdictOn cX4_verdictOn 5 (some .int) ∈ yW := yW_of (List.mem_append_right _ (List.mem_of_getElem? (i := 346) rfl)) rfl
set_option maxRecDepth 20000 in
theorem wq_380 : Cond.methodLink RX4 206 yX2_reachOf ∈ yW := yW_of (List.mem_append_right _ (List.mem_of_getElem? (i := 347) rfl)) rfl
set_option maxRecDepth 20000 in
theorem wq_381 : Cond.methodLink RX4 135 yX4_carryOutPush ∈ yW := yW_of (List.mem_append_right _ (List.mem_of_getElem? (i := 348) rfl)) rfl
set_option maxRecDepth 20000 in
theorem wq_383 : Cond.instanceMethod yX4_carryOutPush ∈ yW := yW_of (List.mem_append_right _ (List.mem_of_getElem? (i := 350) rfl)) rfl
set_option maxRecDepth 20000 in
theorem wq_384 : Cond.code yX4_carryOutPush cX4_carryOutPush 4 (some .boolean) ∈ yW := yW_of (List.mem_append_right _ (List.mem_of_getElem? (i := 351) rfl)) rfl
set_option maxRecDepth 20000 in
theorem wq_385 : Cond.methodLink RL 40 yX4_arm ∈ yW := yW_of (List.mem_append_right _ (List.mem_of_getElem? (i := 352) rfl)) rfl
set_option maxRecDepth 20000 in
theorem wq_386 : Cond.instanceMethod yX4_arm ∈ yW := yW_of (List.mem_append_right _ (List.mem_of_getElem? (i := 353) rfl)) rfl
set_option maxRecDepth 20000 in
theorem wq_387 : Cond.selects RX4 yX4_arm yX4_arm ∈ yW := yW_of (List.mem_append_right _ (List.mem_of_getElem? (i := 354) rfl)) rfl
set_option maxRecDepth 20000 in
theorem wq_388 : Cond.code yX4_arm cX4_arm 3 (some .boolean) ∈ yW := yW_of (List.mem_append_right _ (List.mem_of_getElem? (i := 355) rfl)) rfl
set_option maxRecDepth 20000 in
theorem wq_389 : Cond.methodLink RX4 138 yX0_armWith ∈ yW := yW_of (List.mem_append_right _ (List.mem_of_getElem? (i := 356) rfl)) rfl
set_option maxRecDepth 20000 in
theorem wq_390 : Cond.instanceMethod yX0_armWith ∈ yW := yW_of (List.mem_append_right _ (List.mem_of_getElem? (i := 357) rfl)) rfl
set_option maxRecDepth 20000 in
theorem wq_391 : Cond.selects RX0 yX0_armWith yX0_armWith ∈ yW := yW_of (List.mem_append_right _ (List.mem_of_getElem? (i := 358) rfl)) rfl
set_option maxRecDepth 20000 in
theorem wq_392 : Cond.code yX0_armWith cX0_armWith 2 none ∈ yW := yW_of (List.mem_append_right _ (List.mem_of_getElem? (i := 359) rfl)) rfl
set_option maxRecDepth 20000 in
theorem wq_393 : Cond.methodLink RL 45 yX4_recover ∈ yW := yW_of (List.mem_append_right _ (List.mem_of_getElem? (i := 360) rfl)) rfl
set_option maxRecDepth 20000 in
theorem wq_394 : Cond.instanceMethod yX4_recover ∈ yW := yW_of (List.mem_append_right _ (List.mem_of_getElem? (i := 361) rfl)) rfl
set_option maxRecDepth 20000 in
theorem wq_395 : Cond.selects RX4 yX4_recover yX4_recover ∈ yW := yW_of (List.mem_append_right _ (List.mem_of_getElem? (i := 362) rfl)) rfl
set_option maxRecDepth 20000 in
theorem wq_396 : Cond.code yX4_recover cX4_recover 2 (some .int) ∈ yW := yW_of (List.mem_append_right _ (List.mem_of_getElem? (i := 363) rfl)) rfl
set_option maxRecDepth 20000 in
theorem wq_397 : Cond.methodLink RX4 142 yX0_restore ∈ yW := yW_of (List.mem_append_right _ (List.mem_of_getElem? (i := 364) rfl)) rfl
set_option maxRecDepth 20000 in
theorem wq_398 : Cond.instanceMethod yX0_restore ∈ yW := yW_of (List.mem_append_right _ (List.mem_of_getElem? (i := 365) rfl)) rfl
set_option maxRecDepth 20000 in
theorem wq_399 : Cond.selects RX0 yX0_restore yX0_restore ∈ yW := yW_of (List.mem_append_right _ (List.mem_of_getElem? (i := 366) rfl)) rfl
set_option maxRecDepth 20000 in
theorem wq_400 : Cond.code yX0_restore cX0_restore 3 (some .int) ∈ yW := yW_of (List.mem_append_right _ (List.mem_of_getElem? (i := 367) rfl)) rfl
set_option maxRecDepth 20000 in
theorem wq_401 : Cond.methodLink RL 50 yX4_collect ∈ yW := yW_of (List.mem_append_right _ (List.mem_of_getElem? (i := 368) rfl)) rfl
set_option maxRecDepth 20000 in
theorem wq_402 : Cond.instanceMethod yX4_collect ∈ yW := yW_of (List.mem_append_right _ (List.mem_of_getElem? (i := 369) rfl)) rfl
set_option maxRecDepth 20000 in
theorem wq_403 : Cond.selects RX4 yX4_collect yX4_collect ∈ yW := yW_of (List.mem_append_right _ (List.mem_of_getElem? (i := 370) rfl)) rfl
set_option maxRecDepth 20000 in
theorem wq_404 : Cond.code yX4_collect cX4_collect 3 (some .int) ∈ yW := yW_of (List.mem_append_right _ (List.mem_of_getElem? (i := 371) rfl)) rfl
set_option maxRecDepth 20000 in
theorem wq_405 : Cond.methodLink RX4 145 yX0_keepOnly ∈ yW := yW_of (List.mem_append_right _ (List.mem_of_getElem? (i := 372) rfl)) rfl
set_option maxRecDepth 20000 in
theorem wq_406 : Cond.instanceMethod yX0_keepOnly ∈ yW := yW_of (List.mem_append_right _ (List.mem_of_getElem? (i := 373) rfl)) rfl
set_option maxRecDepth 20000 in
theorem wq_407 : Cond.selects RX0 yX0_keepOnly yX0_keepOnly ∈ yW := yW_of (List.mem_append_right _ (List.mem_of_getElem? (i := 374) rfl)) rfl
set_option maxRecDepth 20000 in
theorem wq_408 : Cond.code yX0_keepOnly cX0_keepOnly 4 (some .int) ∈ yW := yW_of (List.mem_append_right _ (List.mem_of_getElem? (i := 375) rfl)) rfl
set_option maxRecDepth 20000 in
theorem wq_409 : Cond.methodLink RX0 36 yJL_bitCount ∈ yW := yW_of (List.mem_append_right _ (List.mem_of_getElem? (i := 376) rfl)) rfl
set_option maxRecDepth 20000 in
theorem wq_410 : Cond.methodLink RL 54 yX4_up ∈ yW := yW_of (List.mem_append_right _ (List.mem_of_getElem? (i := 377) rfl)) rfl
set_option maxRecDepth 20000 in
theorem wq_411 : Cond.instanceMethod yX4_up ∈ yW := yW_of (List.mem_append_right _ (List.mem_of_getElem? (i := 378) rfl)) rfl
set_option maxRecDepth 20000 in
theorem wq_412 : Cond.selects RX4 yX4_up yX4_up ∈ yW := yW_of (List.mem_append_right _ (List.mem_of_getElem? (i := 379) rfl)) rfl
set_option maxRecDepth 20000 in
theorem wq_413 : Cond.code yX4_up cX4_up 2 (some .boolean) ∈ yW := yW_of (List.mem_append_right _ (List.mem_of_getElem? (i := 380) rfl)) rfl
set_option maxRecDepth 20000 in
theorem wq_414 : Cond.methodLink RL 59 yX4_reference ∈ yW := yW_of (List.mem_append_right _ (List.mem_of_getElem? (i := 381) rfl)) rfl
set_option maxRecDepth 20000 in
theorem wq_415 : Cond.instanceMethod yX4_reference ∈ yW := yW_of (List.mem_append_right _ (List.mem_of_getElem? (i := 382) rfl)) rfl
set_option maxRecDepth 20000 in
theorem wq_416 : Cond.selects RX4 yX4_reference yX4_reference ∈ yW := yW_of (List.mem_append_right _ (List.mem_of_getElem? (i := 383) rfl)) rfl
set_option maxRecDepth 20000 in
theorem wq_417 : Cond.code yX4_reference cX4_reference 4 (some .int) ∈ yW := yW_of (List.mem_append_right _ (List.mem_of_getElem? (i := 384) rfl)) rfl
set_option maxRecDepth 20000 in
theorem wq_418 : Cond.methodLink RL 63 yX4_holds ∈ yW := yW_of (List.mem_append_right _ (List.mem_of_getElem? (i := 385) rfl)) rfl
set_option maxRecDepth 20000 in
theorem wq_419 : Cond.instanceMethod yX4_holds ∈ yW := yW_of (List.mem_append_right _ (List.mem_of_getElem? (i := 386) rfl)) rfl
set_option maxRecDepth 20000 in
theorem wq_420 : Cond.selects RX4 yX4_holds yX4_holds ∈ yW := yW_of (List.mem_append_right _ (List.mem_of_getElem? (i := 387) rfl)) rfl
set_option maxRecDepth 20000 in
theorem wq_421 : Cond.code yX4_holds cX4_holds 3 (some .int) ∈ yW := yW_of (List.mem_append_right _ (List.mem_of_getElem? (i := 388) rfl)) rfl
set_option maxRecDepth 20000 in
theorem wq_422 : Cond.methodLink RL 67 yX4_count ∈ yW := yW_of (List.mem_append_right _ (List.mem_of_getElem? (i := 389) rfl)) rfl
set_option maxRecDepth 20000 in
theorem wq_423 : Cond.instanceMethod yX4_count ∈ yW := yW_of (List.mem_append_right _ (List.mem_of_getElem? (i := 390) rfl)) rfl
set_option maxRecDepth 20000 in
theorem wq_424 : Cond.selects RX4 yX4_count yX4_count ∈ yW := yW_of (List.mem_append_right _ (List.mem_of_getElem? (i := 391) rfl)) rfl
set_option maxRecDepth 20000 in
theorem wq_425 : Cond.code yX4_count cX4_count 2 (some .int) ∈ yW := yW_of (List.mem_append_right _ (List.mem_of_getElem? (i := 392) rfl)) rfl
set_option maxRecDepth 20000 in
theorem wq_426 : Cond.methodLink RX4 153 yJL_bitCount ∈ yW := yW_of (List.mem_append_right _ (List.mem_of_getElem? (i := 393) rfl)) rfl
set_option maxRecDepth 20000 in
theorem wq_427 : Cond.methodLink RL 71 yX4_talk ∈ yW := yW_of (List.mem_append_right _ (List.mem_of_getElem? (i := 394) rfl)) rfl
set_option maxRecDepth 20000 in
theorem wq_428 : Cond.instanceMethod yX4_talk ∈ yW := yW_of (List.mem_append_right _ (List.mem_of_getElem? (i := 395) rfl)) rfl
set_option maxRecDepth 20000 in
theorem wq_429 : Cond.selects RX4 yX4_talk yX4_talk ∈ yW := yW_of (List.mem_append_right _ (List.mem_of_getElem? (i := 396) rfl)) rfl
set_option maxRecDepth 20000 in
theorem wq_430 : Cond.code yX4_talk cX4_talk 2 (some .int) ∈ yW := yW_of (List.mem_append_right _ (List.mem_of_getElem? (i := 397) rfl)) rfl
set_option maxRecDepth 20000 in
theorem wq_431 : Cond.methodLink RX4 158 yX3_havesSent ∈ yW := yW_of (List.mem_append_right _ (List.mem_of_getElem? (i := 398) rfl)) rfl
set_option maxRecDepth 20000 in
theorem wq_432 : Cond.instanceMethod yX3_havesSent ∈ yW := yW_of (List.mem_append_right _ (List.mem_of_getElem? (i := 399) rfl)) rfl
set_option maxRecDepth 20000 in
theorem wq_433 : Cond.selects RX3 yX3_havesSent yX3_havesSent ∈ yW := yW_of (List.mem_append_right _ (List.mem_of_getElem? (i := 400) rfl)) rfl
set_option maxRecDepth 20000 in
theorem wq_434 : Cond.code yX3_havesSent cX3_havesSent 1 (some .int) ∈ yW := yW_of (List.mem_append_right _ (List.mem_of_getElem? (i := 401) rfl)) rfl
set_option maxRecDepth 20000 in
theorem wq_435 : Cond.methodLink RX4 161 yX3_havesAcknowledged ∈ yW := yW_of (List.mem_append_right _ (List.mem_of_getElem? (i := 402) rfl)) rfl
set_option maxRecDepth 20000 in
theorem wq_436 : Cond.instanceMethod yX3_havesAcknowledged ∈ yW := yW_of (List.mem_append_right _ (List.mem_of_getElem? (i := 403) rfl)) rfl
set_option maxRecDepth 20000 in
theorem wq_437 : Cond.selects RX3 yX3_havesAcknowledged yX3_havesAcknowledged ∈ yW := yW_of (List.mem_append_right _ (List.mem_of_getElem? (i := 404) rfl)) rfl
set_option maxRecDepth 20000 in
theorem wq_438 : Cond.code yX3_havesAcknowledged cX3_havesAcknowledged 1 (some .int) ∈ yW := yW_of (List.mem_append_right _ (List.mem_of_getElem? (i := 405) rfl)) rfl
set_option maxRecDepth 20000 in
theorem wq_439 : Cond.methodLink RX4 164 yX3_roundsHeld ∈ yW := yW_of (List.mem_append_right _ (List.mem_of_getElem? (i := 406) rfl)) rfl
set_option maxRecDepth 20000 in
theorem wq_440 : Cond.instanceMethod yX3_roundsHeld ∈ yW := yW_of (List.mem_append_right _ (List.mem_of_getElem? (i := 407) rfl)) rfl
set_option maxRecDepth 20000 in
theorem wq_441 : Cond.selects RX3 yX3_roundsHeld yX3_roundsHeld ∈ yW := yW_of (List.mem_append_right _ (List.mem_of_getElem? (i := 408) rfl)) rfl
set_option maxRecDepth 20000 in
theorem wq_442 : Cond.code yX3_roundsHeld cX3_roundsHeld 1 (some .int) ∈ yW := yW_of (List.mem_append_right _ (List.mem_of_getElem? (i := 409) rfl)) rfl
set_option maxRecDepth 20000 in
theorem wq_443 : Cond.methodLink RL 75 yX4_packed ∈ yW := yW_of (List.mem_append_right _ (List.mem_of_getElem? (i := 410) rfl)) rfl
set_option maxRecDepth 20000 in
theorem wq_444 : Cond.instanceMethod yX4_packed ∈ yW := yW_of (List.mem_append_right _ (List.mem_of_getElem? (i := 411) rfl)) rfl
set_option maxRecDepth 20000 in
theorem wq_445 : Cond.selects RX4 yX4_packed yX4_packed ∈ yW := yW_of (List.mem_append_right _ (List.mem_of_getElem? (i := 412) rfl)) rfl
set_option maxRecDepth 20000 in
theorem wq_446 : Cond.code yX4_packed cX4_packed 1 (some .int) ∈ yW := yW_of (List.mem_append_right _ (List.mem_of_getElem? (i := 413) rfl)) rfl
set_option maxRecDepth 20000 in
theorem wq_447 : Cond.methodLink RL 80 yX4_packAt ∈ yW := yW_of (List.mem_append_right _ (List.mem_of_getElem? (i := 414) rfl)) rfl
set_option maxRecDepth 20000 in
theorem wq_448 : Cond.instanceMethod yX4_packAt ∈ yW := yW_of (List.mem_append_right _ (List.mem_of_getElem? (i := 415) rfl)) rfl
set_option maxRecDepth 20000 in
theorem wq_449 : Cond.selects RX4 yX4_packAt yX4_packAt ∈ yW := yW_of (List.mem_append_right _ (List.mem_of_getElem? (i := 416) rfl)) rfl
set_option maxRecDepth 20000 in
theorem wq_450 : Cond.code yX4_packAt cX4_packAt 2 (some .int) ∈ yW := yW_of (List.mem_append_right _ (List.mem_of_getElem? (i := 417) rfl)) rfl
set_option maxRecDepth 20000 in
theorem wq_451 : Cond.methodLink RX4 167 yX1_objectAt ∈ yW := yW_of (List.mem_append_right _ (List.mem_of_getElem? (i := 418) rfl)) rfl
set_option maxRecDepth 20000 in
theorem wq_452 : Cond.instanceMethod yX1_objectAt ∈ yW := yW_of (List.mem_append_right _ (List.mem_of_getElem? (i := 419) rfl)) rfl
set_option maxRecDepth 20000 in
theorem wq_453 : Cond.selects RX1 yX1_objectAt yX1_objectAt ∈ yW := yW_of (List.mem_append_right _ (List.mem_of_getElem? (i := 420) rfl)) rfl
set_option maxRecDepth 20000 in
theorem wq_454 : Cond.code yX1_objectAt cX1_objectAt 2 (some .int) ∈ yW := yW_of (List.mem_append_right _ (List.mem_of_getElem? (i := 421) rfl)) rfl
set_option maxRecDepth 20000 in
theorem wq_455 : Cond.methodLink RX1 36 yX1_isPlace ∈ yW := yW_of (List.mem_append_right _ (List.mem_of_getElem? (i := 422) rfl)) rfl
set_option maxRecDepth 20000 in
theorem wq_457 : Cond.instanceMethod yX1_isPlace ∈ yW := yW_of (List.mem_append_right _ (List.mem_of_getElem? (i := 424) rfl)) rfl
set_option maxRecDepth 20000 in
theorem wq_458 : Cond.code yX1_isPlace cX1_isPlace 2 (some .boolean) ∈ yW := yW_of (List.mem_append_right _ (List.mem_of_getElem? (i := 425) rfl)) rfl
set_option maxRecDepth 20000 in
theorem wq_459 : Cond.methodLink RL 84 yX4_base ∈ yW := yW_of (List.mem_append_right _ (List.mem_of_getElem? (i := 426) rfl)) rfl
set_option maxRecDepth 20000 in
theorem wq_460 : Cond.instanceMethod yX4_base ∈ yW := yW_of (List.mem_append_right _ (List.mem_of_getElem? (i := 427) rfl)) rfl
set_option maxRecDepth 20000 in
theorem wq_461 : Cond.selects RX4 yX4_base yX4_base ∈ yW := yW_of (List.mem_append_right _ (List.mem_of_getElem? (i := 428) rfl)) rfl
set_option maxRecDepth 20000 in
theorem wq_462 : Cond.code yX4_base cX4_base 2 (some .int) ∈ yW := yW_of (List.mem_append_right _ (List.mem_of_getElem? (i := 429) rfl)) rfl
set_option maxRecDepth 20000 in
theorem wq_463 : Cond.methodLink RX4 170 yX1_baseAt ∈ yW := yW_of (List.mem_append_right _ (List.mem_of_getElem? (i := 430) rfl)) rfl
set_option maxRecDepth 20000 in
theorem wq_464 : Cond.instanceMethod yX1_baseAt ∈ yW := yW_of (List.mem_append_right _ (List.mem_of_getElem? (i := 431) rfl)) rfl
set_option maxRecDepth 20000 in
theorem wq_465 : Cond.selects RX1 yX1_baseAt yX1_baseAt ∈ yW := yW_of (List.mem_append_right _ (List.mem_of_getElem? (i := 432) rfl)) rfl
set_option maxRecDepth 20000 in
theorem wq_466 : Cond.code yX1_baseAt cX1_baseAt 2 (some .int) ∈ yW := yW_of (List.mem_append_right _ (List.mem_of_getElem? (i := 433) rfl)) rfl
set_option maxRecDepth 20000 in
theorem wq_467 : Cond.methodLink RL 88 yX4_weight ∈ yW := yW_of (List.mem_append_right _ (List.mem_of_getElem? (i := 434) rfl)) rfl
set_option maxRecDepth 20000 in
theorem wq_468 : Cond.instanceMethod yX4_weight ∈ yW := yW_of (List.mem_append_right _ (List.mem_of_getElem? (i := 435) rfl)) rfl
set_option maxRecDepth 20000 in
theorem wq_469 : Cond.selects RX4 yX4_weight yX4_weight ∈ yW := yW_of (List.mem_append_right _ (List.mem_of_getElem? (i := 436) rfl)) rfl
set_option maxRecDepth 20000 in
theorem wq_470 : Cond.code yX4_weight cX4_weight 1 (some .int) ∈ yW := yW_of (List.mem_append_right _ (List.mem_of_getElem? (i := 437) rfl)) rfl
set_option maxRecDepth 20000 in
theorem wq_471 : Cond.methodLink RX4 173 yX1_totalWeight ∈ yW := yW_of (List.mem_append_right _ (List.mem_of_getElem? (i := 438) rfl)) rfl
set_option maxRecDepth 20000 in
theorem wq_472 : Cond.instanceMethod yX1_totalWeight ∈ yW := yW_of (List.mem_append_right _ (List.mem_of_getElem? (i := 439) rfl)) rfl
set_option maxRecDepth 20000 in
theorem wq_473 : Cond.selects RX1 yX1_totalWeight yX1_totalWeight ∈ yW := yW_of (List.mem_append_right _ (List.mem_of_getElem? (i := 440) rfl)) rfl
set_option maxRecDepth 20000 in
theorem wq_474 : Cond.code yX1_totalWeight cX1_totalWeight 1 (some .int) ∈ yW := yW_of (List.mem_append_right _ (List.mem_of_getElem? (i := 441) rfl)) rfl
set_option maxRecDepth 20000 in
theorem wq_475 : Cond.methodLink RL 92 yX4_verdict ∈ yW := yW_of (List.mem_append_right _ (List.mem_of_getElem? (i := 442) rfl)) rfl
set_option maxRecDepth 20000 in
theorem wq_476 : Cond.instanceMethod yX4_verdict ∈ yW := yW_of (List.mem_append_right _ (List.mem_of_getElem? (i := 443) rfl)) rfl
set_option maxRecDepth 20000 in
theorem wq_477 : Cond.selects RX4 yX4_verdict yX4_verdict ∈ yW := yW_of (List.mem_append_right _ (List.mem_of_getElem? (i := 444) rfl)) rfl
set_option maxRecDepth 20000 in
theorem wq_478 : Cond.code yX4_verdict cX4_verdict 2 (some .int) ∈ yW := yW_of (List.mem_append_right _ (List.mem_of_getElem? (i := 445) rfl)) rfl
set_option maxRecDepth 20000 in
theorem wq_479 : Cond.classLink RL 10 RX5 ∈ yW := yW_of (List.mem_append_right _ (List.mem_of_getElem? (i := 446) rfl)) rfl
set_option maxRecDepth 20000 in
theorem wq_480 : Cond.instantiable RX5 25 ∈ yW := yW_of (List.mem_append_right _ (List.mem_of_getElem? (i := 447) rfl)) rfl
set_option maxRecDepth 20000 in
theorem wq_481 : Cond.methodLink RL 12 yX5_init ∈ yW := yW_of (List.mem_append_right _ (List.mem_of_getElem? (i := 448) rfl)) rfl
set_option maxRecDepth 20000 in
theorem wq_482 : Cond.instanceMethod yX5_init ∈ yW := yW_of (List.mem_append_right _ (List.mem_of_getElem? (i := 449) rfl)) rfl
set_option maxRecDepth 20000 in
theorem wq_483 : Cond.code yX5_init cX5_init 1 none ∈ yW := yW_of (List.mem_append_right _ (List.mem_of_getElem? (i := 450) rfl)) rfl
set_option maxRecDepth 20000 in
theorem wq_484 : Cond.methodLink RX5 1 objectInit ∈ yW := yW_of (List.mem_append_right _ (List.mem_of_getElem? (i := 451) rfl)) rfl
set_option maxRecDepth 20000 in
theorem wq_485 : Cond.fieldLink RX5 69 "PackExchangeModel" "objects" "I" ∈ yW := yW_of (List.mem_append_right _ (List.mem_of_getElem? (i := 452) rfl)) rfl
set_option maxRecDepth 20000 in
theorem wq_486 : Cond.fieldLink RX5 7 "PackExchangeModel" "kind" "[I" ∈ yW := yW_of (List.mem_append_right _ (List.mem_of_getElem? (i := 453) rfl)) rfl
set_option maxRecDepth 20000 in
theorem wq_487 : Cond.fieldLink RX5 13 "PackExchangeModel" "one" "[I" ∈ yW := yW_of (List.mem_append_right _ (List.mem_of_getElem? (i := 454) rfl)) rfl
set_option maxRecDepth 20000 in
theorem wq_488 : Cond.fieldLink RX5 16 "PackExchangeModel" "two" "[I" ∈ yW := yW_of (List.mem_append_right _ (List.mem_of_getElem? (i := 455) rfl)) rfl
set_option maxRecDepth 20000 in
theorem wq_489 : Cond.fieldLink RX5 19 "PackExchangeModel" "three" "[I" ∈ yW := yW_of (List.mem_append_right _ (List.mem_of_getElem? (i := 456) rfl)) rfl
set_option maxRecDepth 20000 in
theorem wq_490 : Cond.fieldLink RX5 22 "PackExchangeModel" "held" "[J" ∈ yW := yW_of (List.mem_append_right _ (List.mem_of_getElem? (i := 457) rfl)) rfl
set_option maxRecDepth 20000 in
theorem wq_491 : Cond.fieldLink RX5 26 "PackExchangeModel" "ref" "[I" ∈ yW := yW_of (List.mem_append_right _ (List.mem_of_getElem? (i := 458) rfl)) rfl
set_option maxRecDepth 20000 in
theorem wq_492 : Cond.fieldLink RX5 29 "PackExchangeModel" "dark" "[Z" ∈ yW := yW_of (List.mem_append_right _ (List.mem_of_getElem? (i := 459) rfl)) rfl
set_option maxRecDepth 20000 in
theorem wq_493 : Cond.fieldLink RX5 33 "PackExchangeModel" "fuse" "[I" ∈ yW := yW_of (List.mem_append_right _ (List.mem_of_getElem? (i := 460) rfl)) rfl
set_option maxRecDepth 20000 in
theorem wq_494 : Cond.fieldLink RX5 36 "PackExchangeModel" "noted" "[I" ∈ yW := yW_of (List.mem_append_right _ (List.mem_of_getElem? (i := 461) rfl)) rfl
set_option maxRecDepth 20000 in
theorem wq_495 : Cond.fieldLink RX5 39 "PackExchangeModel" "sealed" "[Z" ∈ yW := yW_of (List.mem_append_right _ (List.mem_of_getElem? (i := 462) rfl)) rfl
set_option maxRecDepth 20000 in
theorem wq_496 : Cond.fieldLink RX5 42 "PackExchangeModel" "noteRef" "[I" ∈ yW := yW_of (List.mem_append_right _ (List.mem_of_getElem? (i := 463) rfl)) rfl
set_option maxRecDepth 20000 in
theorem wq_497 : Cond.fieldLink RX5 45 "PackExchangeModel" "noteValue" "[I" ∈ yW := yW_of (List.mem_append_right _ (List.mem_of_getElem? (i := 464) rfl)) rfl
set_option maxRecDepth 20000 in
theorem wq_498 : Cond.fieldLink RX5 81 "PackExchangeModel" "wishes" "I" ∈ yW := yW_of (List.mem_append_right _ (List.mem_of_getElem? (i := 465) rfl)) rfl
set_option maxRecDepth 20000 in
theorem wq_499 : Cond.fieldLink RX5 48 "PackExchangeModel" "wishRef" "[I" ∈ yW := yW_of (List.mem_append_right _ (List.mem_of_getElem? (i := 466) rfl)) rfl
set_option maxRecDepth 20000 in
theorem wq_500 : Cond.fieldLink RX5 51 "PackExchangeModel" "wishValue" "[I" ∈ yW := yW_of (List.mem_append_right _ (List.mem_of_getElem? (i := 467) rfl)) rfl
set_option maxRecDepth 20000 in
theorem wq_501 : Cond.fieldLink RX5 127 "PackExchangeModel" "haves" "I" ∈ yW := yW_of (List.mem_append_right _ (List.mem_of_getElem? (i := 468) rfl)) rfl
set_option maxRecDepth 20000 in
theorem wq_502 : Cond.fieldLink RX5 130 "PackExchangeModel" "acks" "I" ∈ yW := yW_of (List.mem_append_right _ (List.mem_of_getElem? (i := 469) rfl)) rfl
set_option maxRecDepth 20000 in
theorem wq_503 : Cond.fieldLink RX5 124 "PackExchangeModel" "rounds" "I" ∈ yW := yW_of (List.mem_append_right _ (List.mem_of_getElem? (i := 470) rfl)) rfl
set_option maxRecDepth 20000 in
theorem wq_504 : Cond.fieldLink RX5 54 "PackExchangeModel" "verdicts" "[I" ∈ yW := yW_of (List.mem_append_right _ (List.mem_of_getElem? (i := 471) rfl)) rfl
set_option maxRecDepth 20000 in
theorem wq_505 : Cond.fieldLink RX5 107 "PackExchangeModel" "size" "I" ∈ yW := yW_of (List.mem_append_right _ (List.mem_of_getElem? (i := 472) rfl)) rfl
set_option maxRecDepth 20000 in
theorem wq_506 : Cond.fieldLink RX5 57 "PackExchangeModel" "at" "[I" ∈ yW := yW_of (List.mem_append_right _ (List.mem_of_getElem? (i := 473) rfl)) rfl
set_option maxRecDepth 20000 in
theorem wq_507 : Cond.fieldLink RX5 60 "PackExchangeModel" "bases" "[I" ∈ yW := yW_of (List.mem_append_right _ (List.mem_of_getElem? (i := 474) rfl)) rfl
set_option maxRecDepth 20000 in
theorem wq_508 : Cond.fieldLink RX5 63 "PackExchangeModel" "chain" "[I" ∈ yW := yW_of (List.mem_append_right _ (List.mem_of_getElem? (i := 475) rfl)) rfl
set_option maxRecDepth 20000 in
theorem wq_509 : Cond.fieldLink RX5 66 "PackExchangeModel" "weights" "[I" ∈ yW := yW_of (List.mem_append_right _ (List.mem_of_getElem? (i := 476) rfl)) rfl
set_option maxRecDepth 20000 in
theorem wq_561 : Cond.arrayClass .boolean ∈ yW := yW_of (List.mem_append_right _ (List.mem_of_getElem? (i := 528) rfl)) rfl
set_option maxRecDepth 20000 in
theorem wq_562 : Cond.methodLink RL 17 yX5_blob ∈ yW := yW_of (List.mem_append_right _ (List.mem_of_getElem? (i := 529) rfl)) rfl
set_option maxRecDepth 20000 in
theorem wq_563 : Cond.instanceMethod yX5_blob ∈ yW := yW_of (List.mem_append_right _ (List.mem_of_getElem? (i := 530) rfl)) rfl
set_option maxRecDepth 20000 in
theorem wq_564 : Cond.selects RX5 yX5_blob yX5_blob ∈ yW := yW_of (List.mem_append_right _ (List.mem_of_getElem? (i := 531) rfl)) rfl
set_option maxRecDepth 20000 in
theorem wq_565 : Cond.code yX5_blob cX5_blob 3 (some .int) ∈ yW := yW_of (List.mem_append_right _ (List.mem_of_getElem? (i := 532) rfl)) rfl
set_option maxRecDepth 20000 in
theorem wq_566 : Cond.methodLink RX5 90 yX5_isNode ∈ yW := yW_of (List.mem_append_right _ (List.mem_of_getElem? (i := 533) rfl)) rfl
set_option maxRecDepth 20000 in
theorem wq_567 : Cond.static yX5_isNode ∈ yW := yW_of (List.mem_append_right _ (List.mem_of_getElem? (i := 534) rfl)) rfl
set_option maxRecDepth 20000 in
theorem wq_568 : Cond.code yX5_isNode cX5_isNode 1 (some .boolean) ∈ yW := yW_of (List.mem_append_right _ (List.mem_of_getElem? (i := 535) rfl)) rfl
set_option maxRecDepth 20000 in
theorem wq_569 : Cond.methodLink RX5 93 yX5_make ∈ yW := yW_of (List.mem_append_right _ (List.mem_of_getElem? (i := 536) rfl)) rfl
set_option maxRecDepth 20000 in
theorem wq_571 : Cond.instanceMethod yX5_make ∈ yW := yW_of (List.mem_append_right _ (List.mem_of_getElem? (i := 538) rfl)) rfl
set_option maxRecDepth 20000 in
theorem wq_572 : Cond.code yX5_make cX5_make 7 (some .int) ∈ yW := yW_of (List.mem_append_right _ (List.mem_of_getElem? (i := 539) rfl)) rfl
set_option maxRecDepth 20000 in
theorem wq_573 : Cond.methodLink RX5 73 yX5_has ∈ yW := yW_of (List.mem_append_right _ (List.mem_of_getElem? (i := 540) rfl)) rfl
set_option maxRecDepth 20000 in
theorem wq_575 : Cond.instanceMethod yX5_has ∈ yW := yW_of (List.mem_append_right _ (List.mem_of_getElem? (i := 542) rfl)) rfl
set_option maxRecDepth 20000 in
theorem wq_576 : Cond.code yX5_has cX5_has 3 (some .boolean) ∈ yW := yW_of (List.mem_append_right _ (List.mem_of_getElem? (i := 543) rfl)) rfl
set_option maxRecDepth 20000 in
theorem wq_577 : Cond.methodLink RX5 77 yX5_write ∈ yW := yW_of (List.mem_append_right _ (List.mem_of_getElem? (i := 544) rfl)) rfl
set_option maxRecDepth 20000 in
theorem wq_579 : Cond.instanceMethod yX5_write ∈ yW := yW_of (List.mem_append_right _ (List.mem_of_getElem? (i := 546) rfl)) rfl
set_option maxRecDepth 20000 in
theorem wq_580 : Cond.code yX5_write cX5_write 2 (some .boolean) ∈ yW := yW_of (List.mem_append_right _ (List.mem_of_getElem? (i := 547) rfl)) rfl
set_option maxRecDepth 20000 in
theorem wq_581 : Cond.methodLink RL 22 yX5_tree ∈ yW := yW_of (List.mem_append_right _ (List.mem_of_getElem? (i := 548) rfl)) rfl
set_option maxRecDepth 20000 in
theorem wq_582 : Cond.instanceMethod yX5_tree ∈ yW := yW_of (List.mem_append_right _ (List.mem_of_getElem? (i := 549) rfl)) rfl
set_option maxRecDepth 20000 in
theorem wq_583 : Cond.selects RX5 yX5_tree yX5_tree ∈ yW := yW_of (List.mem_append_right _ (List.mem_of_getElem? (i := 550) rfl)) rfl
set_option maxRecDepth 20000 in
theorem wq_584 : Cond.code yX5_tree cX5_tree 4 (some .int) ∈ yW := yW_of (List.mem_append_right _ (List.mem_of_getElem? (i := 551) rfl)) rfl
set_option maxRecDepth 20000 in
theorem wq_585 : Cond.methodLink RX5 97 yX5_entry ∈ yW := yW_of (List.mem_append_right _ (List.mem_of_getElem? (i := 552) rfl)) rfl
set_option maxRecDepth 20000 in
theorem wq_587 : Cond.instanceMethod yX5_entry ∈ yW := yW_of (List.mem_append_right _ (List.mem_of_getElem? (i := 554) rfl)) rfl
set_option maxRecDepth 20000 in
theorem wq_588 : Cond.code yX5_entry cX5_entry 3 (some .boolean) ∈ yW := yW_of (List.mem_append_right _ (List.mem_of_getElem? (i := 555) rfl)) rfl
set_option maxRecDepth 20000 in
theorem wq_589 : Cond.methodLink RL 27 yX5_commit ∈ yW := yW_of (List.mem_append_right _ (List.mem_of_getElem? (i := 556) rfl)) rfl
set_option maxRecDepth 20000 in
theorem wq_590 : Cond.instanceMethod yX5_commit ∈ yW := yW_of (List.mem_append_right _ (List.mem_of_getElem? (i := 557) rfl)) rfl
set_option maxRecDepth 20000 in
theorem wq_591 : Cond.selects RX5 yX5_commit yX5_commit ∈ yW := yW_of (List.mem_append_right _ (List.mem_of_getElem? (i := 558) rfl)) rfl
set_option maxRecDepth 20000 in
theorem wq_592 : Cond.code yX5_commit cX5_commit 7 (some .int) ∈ yW := yW_of (List.mem_append_right _ (List.mem_of_getElem? (i := 559) rfl)) rfl
set_option maxRecDepth 20000 in
theorem wq_593 : Cond.methodLink RX5 100 yX5_wish ∈ yW := yW_of (List.mem_append_right _ (List.mem_of_getElem? (i := 560) rfl)) rfl
set_option maxRecDepth 20000 in
theorem wq_595 : Cond.instanceMethod yX5_wish ∈ yW := yW_of (List.mem_append_right _ (List.mem_of_getElem? (i := 562) rfl)) rfl
set_option maxRecDepth 20000 in
theorem wq_596 : Cond.code yX5_wish cX5_wish 3 none ∈ yW := yW_of (List.mem_append_right _ (List.mem_of_getElem? (i := 563) rfl)) rfl
set_option maxRecDepth 20000 in
theorem wq_597 : Cond.methodLink RX5 104 yX5_transact ∈ yW := yW_of (List.mem_append_right _ (List.mem_of_getElem? (i := 564) rfl)) rfl
set_option maxRecDepth 20000 in
theorem wq_599 : Cond.instanceMethod yX5_transact ∈ yW := yW_of (List.mem_append_right _ (List.mem_of_getElem? (i := 566) rfl)) rfl
set_option maxRecDepth 20000 in
theorem wq_600 : Cond.code yX5_transact cX5_transact 4 (some .boolean) ∈ yW := yW_of (List.mem_append_right _ (List.mem_of_getElem? (i := 567) rfl)) rfl
set_option maxRecDepth 20000 in
theorem wq_601 : Cond.methodLink RX5 84 yX5_replay ∈ yW := yW_of (List.mem_append_right _ (List.mem_of_getElem? (i := 568) rfl)) rfl
set_option maxRecDepth 20000 in
theorem wq_603 : Cond.instanceMethod yX5_replay ∈ yW := yW_of (List.mem_append_right _ (List.mem_of_getElem? (i := 570) rfl)) rfl
set_option maxRecDepth 20000 in
theorem wq_604 : Cond.code yX5_replay cX5_replay 3 (some .boolean) ∈ yW := yW_of (List.mem_append_right _ (List.mem_of_getElem? (i := 571) rfl)) rfl
set_option maxRecDepth 20000 in
theorem wq_605 : Cond.methodLink RX5 87 yX5_wipe ∈ yW := yW_of (List.mem_append_right _ (List.mem_of_getElem? (i := 572) rfl)) rfl
set_option maxRecDepth 20000 in
theorem wq_607 : Cond.instanceMethod yX5_wipe ∈ yW := yW_of (List.mem_append_right _ (List.mem_of_getElem? (i := 574) rfl)) rfl
set_option maxRecDepth 20000 in
theorem wq_608 : Cond.code yX5_wipe cX5_wipe 2 (some .boolean) ∈ yW := yW_of (List.mem_append_right _ (List.mem_of_getElem? (i := 575) rfl)) rfl
set_option maxRecDepth 20000 in
theorem wq_609 : Cond.methodLink RL 31 yX5_point ∈ yW := yW_of (List.mem_append_right _ (List.mem_of_getElem? (i := 576) rfl)) rfl
set_option maxRecDepth 20000 in
theorem wq_610 : Cond.instanceMethod yX5_point ∈ yW := yW_of (List.mem_append_right _ (List.mem_of_getElem? (i := 577) rfl)) rfl
set_option maxRecDepth 20000 in
theorem wq_611 : Cond.selects RX5 yX5_point yX5_point ∈ yW := yW_of (List.mem_append_right _ (List.mem_of_getElem? (i := 578) rfl)) rfl
set_option maxRecDepth 20000 in
theorem wq_612 : Cond.code yX5_point cX5_point 4 (some .int) ∈ yW := yW_of (List.mem_append_right _ (List.mem_of_getElem? (i := 579) rfl)) rfl
set_option maxRecDepth 20000 in
theorem wq_613 : Cond.methodLink RL 35 yX5_fetch ∈ yW := yW_of (List.mem_append_right _ (List.mem_of_getElem? (i := 580) rfl)) rfl
set_option maxRecDepth 20000 in
theorem wq_614 : Cond.instanceMethod yX5_fetch ∈ yW := yW_of (List.mem_append_right _ (List.mem_of_getElem? (i := 581) rfl)) rfl
set_option maxRecDepth 20000 in
theorem wq_615 : Cond.selects RX5 yX5_fetch yX5_fetch ∈ yW := yW_of (List.mem_append_right _ (List.mem_of_getElem? (i := 582) rfl)) rfl
set_option maxRecDepth 20000 in
theorem wq_616 : Cond.code yX5_fetch cX5_fetch 9 (some .int) ∈ yW := yW_of (List.mem_append_right _ (List.mem_of_getElem? (i := 583) rfl)) rfl
set_option maxRecDepth 20000 in
theorem wq_617 : Cond.methodLink RX5 141 yX5_converse ∈ yW := yW_of (List.mem_append_right _ (List.mem_of_getElem? (i := 584) rfl)) rfl
set_option maxRecDepth 20000 in
theorem wq_619 : Cond.instanceMethod yX5_converse ∈ yW := yW_of (List.mem_append_right _ (List.mem_of_getElem? (i := 586) rfl)) rfl
set_option maxRecDepth 20000 in
theorem wq_620 : Cond.code yX5_converse cX5_converse 15 (some .long) ∈ yW := yW_of (List.mem_append_right _ (List.mem_of_getElem? (i := 587) rfl)) rfl
set_option maxRecDepth 20000 in
theorem wq_621 : Cond.methodLink RX5 118 yX5_tips ∈ yW := yW_of (List.mem_append_right _ (List.mem_of_getElem? (i := 588) rfl)) rfl
set_option maxRecDepth 20000 in
theorem wq_623 : Cond.instanceMethod yX5_tips ∈ yW := yW_of (List.mem_append_right _ (List.mem_of_getElem? (i := 590) rfl)) rfl
set_option maxRecDepth 20000 in
theorem wq_624 : Cond.code yX5_tips cX5_tips 7 (some .long) ∈ yW := yW_of (List.mem_append_right _ (List.mem_of_getElem? (i := 591) rfl)) rfl
set_option maxRecDepth 20000 in
theorem wq_625 : Cond.methodLink RX5 114 yX5_reach ∈ yW := yW_of (List.mem_append_right _ (List.mem_of_getElem? (i := 592) rfl)) rfl
set_option maxRecDepth 20000 in
theorem wq_627 : Cond.instanceMethod yX5_reach ∈ yW := yW_of (List.mem_append_right _ (List.mem_of_getElem? (i := 594) rfl)) rfl
set_option maxRecDepth 20000 in
theorem wq_628 : Cond.code yX5_reach cX5_reach 6 (some .long) ∈ yW := yW_of (List.mem_append_right _ (List.mem_of_getElem? (i := 595) rfl)) rfl
set_option maxRecDepth 20000 in
theorem wq_629 : Cond.constantLong RX5 122 (-1) ∈ yW := yW_of (List.mem_append_right _ (List.mem_of_getElem? (i := 596) rfl)) rfl
set_option maxRecDepth 20000 in
theorem wq_630 : Cond.methodLink RX5 133 yX5_many ∈ yW := yW_of (List.mem_append_right _ (List.mem_of_getElem? (i := 597) rfl)) rfl
set_option maxRecDepth 20000 in
theorem wq_631 : Cond.static yX5_many ∈ yW := yW_of (List.mem_append_right _ (List.mem_of_getElem? (i := 598) rfl)) rfl
set_option maxRecDepth 20000 in
theorem wq_632 : Cond.code yX5_many cX5_many 4 (some .int) ∈ yW := yW_of (List.mem_append_right _ (List.mem_of_getElem? (i := 599) rfl)) rfl
set_option maxRecDepth 20000 in
theorem wq_633 : Cond.methodLink RX5 137 yX5_allReach ∈ yW := yW_of (List.mem_append_right _ (List.mem_of_getElem? (i := 600) rfl)) rfl
set_option maxRecDepth 20000 in
theorem wq_635 : Cond.instanceMethod yX5_allReach ∈ yW := yW_of (List.mem_append_right _ (List.mem_of_getElem? (i := 602) rfl)) rfl
set_option maxRecDepth 20000 in
theorem wq_636 : Cond.code yX5_allReach cX5_allReach 6 (some .boolean) ∈ yW := yW_of (List.mem_append_right _ (List.mem_of_getElem? (i := 603) rfl)) rfl
set_option maxRecDepth 20000 in
theorem wq_637 : Cond.methodLink RX5 145 yX5_pack ∈ yW := yW_of (List.mem_append_right _ (List.mem_of_getElem? (i := 604) rfl)) rfl
set_option maxRecDepth 20000 in
theorem wq_639 : Cond.instanceMethod yX5_pack ∈ yW := yW_of (List.mem_append_right _ (List.mem_of_getElem? (i := 606) rfl)) rfl
set_option maxRecDepth 20000 in
theorem wq_640 : Cond.code yX5_pack cX5_pack 5 none ∈ yW := yW_of (List.mem_append_right _ (List.mem_of_getElem? (i := 607) rfl)) rfl
set_option maxRecDepth 20000 in
theorem wq_641 : Cond.methodLink RX5 110 yX5_place ∈ yW := yW_of (List.mem_append_right _ (List.mem_of_getElem? (i := 608) rfl)) rfl
set_option maxRecDepth 20000 in
theorem wq_643 : Cond.instanceMethod yX5_place ∈ yW := yW_of (List.mem_append_right _ (List.mem_of_getElem? (i := 610) rfl)) rfl
set_option maxRecDepth 20000 in
theorem wq_644 : Cond.code yX5_place cX5_place 6 none ∈ yW := yW_of (List.mem_append_right _ (List.mem_of_getElem? (i := 611) rfl)) rfl
set_option maxRecDepth 20000 in
theorem wq_645 : Cond.methodLink RX5 149 yX5_store ∈ yW := yW_of (List.mem_append_right _ (List.mem_of_getElem? (i := 612) rfl)) rfl
set_option maxRecDepth 20000 in
theorem wq_647 : Cond.instanceMethod yX5_store ∈ yW := yW_of (List.mem_append_right _ (List.mem_of_getElem? (i := 614) rfl)) rfl
set_option maxRecDepth 20000 in
theorem wq_648 : Cond.code yX5_store cX5_store 5 (some .boolean) ∈ yW := yW_of (List.mem_append_right _ (List.mem_of_getElem? (i := 615) rfl)) rfl
set_option maxRecDepth 20000 in
theorem wq_649 : Cond.methodLink RL 39 yX5_push ∈ yW := yW_of (List.mem_append_right _ (List.mem_of_getElem? (i := 616) rfl)) rfl
set_option maxRecDepth 20000 in
theorem wq_650 : Cond.instanceMethod yX5_push ∈ yW := yW_of (List.mem_append_right _ (List.mem_of_getElem? (i := 617) rfl)) rfl
set_option maxRecDepth 20000 in
theorem wq_651 : Cond.selects RX5 yX5_push yX5_push ∈ yW := yW_of (List.mem_append_right _ (List.mem_of_getElem? (i := 618) rfl)) rfl
set_option maxRecDepth 20000 in
theorem wq_652 : Cond.code yX5_push cX5_push 5 (some .int) ∈ yW := yW_of (List.mem_append_right _ (List.mem_of_getElem? (i := 619) rfl)) rfl
set_option maxRecDepth 20000 in
theorem wq_653 : Cond.methodLink RX5 153 yX5_judge ∈ yW := yW_of (List.mem_append_right _ (List.mem_of_getElem? (i := 620) rfl)) rfl
set_option maxRecDepth 20000 in
theorem wq_655 : Cond.instanceMethod yX5_judge ∈ yW := yW_of (List.mem_append_right _ (List.mem_of_getElem? (i := 622) rfl)) rfl
set_option maxRecDepth 20000 in
theorem wq_656 : Cond.code yX5_judge cX5_judge 4 (some .int) ∈ yW := yW_of (List.mem_append_right _ (List.mem_of_getElem? (i := 623) rfl)) rfl
set_option maxRecDepth 20000 in
theorem wq_657 : Cond.methodLink RX5 157 yX5_carry ∈ yW := yW_of (List.mem_append_right _ (List.mem_of_getElem? (i := 624) rfl)) rfl
set_option maxRecDepth 20000 in
theorem wq_659 : Cond.instanceMethod yX5_carry ∈ yW := yW_of (List.mem_append_right _ (List.mem_of_getElem? (i := 626) rfl)) rfl
set_option maxRecDepth 20000 in
theorem wq_660 : Cond.code yX5_carry cX5_carry 12 (some .boolean) ∈ yW := yW_of (List.mem_append_right _ (List.mem_of_getElem? (i := 627) rfl)) rfl
set_option maxRecDepth 20000 in
theorem wq_661 : Cond.methodLink RL 44 yX5_arm ∈ yW := yW_of (List.mem_append_right _ (List.mem_of_getElem? (i := 628) rfl)) rfl
set_option maxRecDepth 20000 in
theorem wq_662 : Cond.instanceMethod yX5_arm ∈ yW := yW_of (List.mem_append_right _ (List.mem_of_getElem? (i := 629) rfl)) rfl
set_option maxRecDepth 20000 in
theorem wq_663 : Cond.selects RX5 yX5_arm yX5_arm ∈ yW := yW_of (List.mem_append_right _ (List.mem_of_getElem? (i := 630) rfl)) rfl
set_option maxRecDepth 20000 in
theorem wq_664 : Cond.code yX5_arm cX5_arm 3 (some .boolean) ∈ yW := yW_of (List.mem_append_right _ (List.mem_of_getElem? (i := 631) rfl)) rfl
set_option maxRecDepth 20000 in
theorem wq_665 : Cond.methodLink RL 49 yX5_recover ∈ yW := yW_of (List.mem_append_right _ (List.mem_of_getElem? (i := 632) rfl)) rfl
set_option maxRecDepth 20000 in
theorem wq_666 : Cond.instanceMethod yX5_recover ∈ yW := yW_of (List.mem_append_right _ (List.mem_of_getElem? (i := 633) rfl)) rfl
set_option maxRecDepth 20000 in
theorem wq_667 : Cond.selects RX5 yX5_recover yX5_recover ∈ yW := yW_of (List.mem_append_right _ (List.mem_of_getElem? (i := 634) rfl)) rfl
set_option maxRecDepth 20000 in
theorem wq_668 : Cond.code yX5_recover cX5_recover 4 (some .int) ∈ yW := yW_of (List.mem_append_right _ (List.mem_of_getElem? (i := 635) rfl)) rfl
set_option maxRecDepth 20000 in
theorem wq_669 : Cond.methodLink RL 53 yX5_collect ∈ yW := yW_of (List.mem_append_right _ (List.mem_of_getElem? (i := 636) rfl)) rfl
set_option maxRecDepth 20000 in
theorem wq_670 : Cond.instanceMethod yX5_collect ∈ yW := yW_of (List.mem_append_right _ (List.mem_of_getElem? (i := 637) rfl)) rfl
set_option maxRecDepth 20000 in
theorem wq_671 : Cond.selects RX5 yX5_collect yX5_collect ∈ yW := yW_of (List.mem_append_right _ (List.mem_of_getElem? (i := 638) rfl)) rfl
set_option maxRecDepth 20000 in
theorem wq_672 : Cond.code yX5_collect cX5_collect 5 (some .int) ∈ yW := yW_of (List.mem_append_right _ (List.mem_of_getElem? (i := 639) rfl)) rfl
set_option maxRecDepth 20000 in
theorem wq_673 : Cond.methodLink RL 58 yX5_up ∈ yW := yW_of (List.mem_append_right _ (List.mem_of_getElem? (i := 640) rfl)) rfl
set_option maxRecDepth 20000 in
theorem wq_674 : Cond.instanceMethod yX5_up ∈ yW := yW_of (List.mem_append_right _ (List.mem_of_getElem? (i := 641) rfl)) rfl
set_option maxRecDepth 20000 in
theorem wq_675 : Cond.selects RX5 yX5_up yX5_up ∈ yW := yW_of (List.mem_append_right _ (List.mem_of_getElem? (i := 642) rfl)) rfl
set_option maxRecDepth 20000 in
theorem wq_676 : Cond.code yX5_up cX5_up 2 (some .boolean) ∈ yW := yW_of (List.mem_append_right _ (List.mem_of_getElem? (i := 643) rfl)) rfl
set_option maxRecDepth 20000 in
theorem wq_677 : Cond.methodLink RL 62 yX5_reference ∈ yW := yW_of (List.mem_append_right _ (List.mem_of_getElem? (i := 644) rfl)) rfl
set_option maxRecDepth 20000 in
theorem wq_678 : Cond.instanceMethod yX5_reference ∈ yW := yW_of (List.mem_append_right _ (List.mem_of_getElem? (i := 645) rfl)) rfl
set_option maxRecDepth 20000 in
theorem wq_679 : Cond.selects RX5 yX5_reference yX5_reference ∈ yW := yW_of (List.mem_append_right _ (List.mem_of_getElem? (i := 646) rfl)) rfl
set_option maxRecDepth 20000 in
theorem wq_680 : Cond.code yX5_reference cX5_reference 4 (some .int) ∈ yW := yW_of (List.mem_append_right _ (List.mem_of_getElem? (i := 647) rfl)) rfl
set_option maxRecDepth 20000 in
theorem wq_681 : Cond.methodLink RL 66 yX5_holds ∈ yW := yW_of (List.mem_append_right _ (List.mem_of_getElem? (i := 648) rfl)) rfl
set_option maxRecDepth 20000 in
theorem wq_682 : Cond.instanceMethod yX5_holds ∈ yW := yW_of (List.mem_append_right _ (List.mem_of_getElem? (i := 649) rfl)) rfl
set_option maxRecDepth 20000 in
theorem wq_683 : Cond.selects RX5 yX5_holds yX5_holds ∈ yW := yW_of (List.mem_append_right _ (List.mem_of_getElem? (i := 650) rfl)) rfl
set_option maxRecDepth 20000 in
theorem wq_684 : Cond.code yX5_holds cX5_holds 3 (some .int) ∈ yW := yW_of (List.mem_append_right _ (List.mem_of_getElem? (i := 651) rfl)) rfl
set_option maxRecDepth 20000 in
theorem wq_685 : Cond.methodLink RL 70 yX5_count ∈ yW := yW_of (List.mem_append_right _ (List.mem_of_getElem? (i := 652) rfl)) rfl
set_option maxRecDepth 20000 in
theorem wq_686 : Cond.instanceMethod yX5_count ∈ yW := yW_of (List.mem_append_right _ (List.mem_of_getElem? (i := 653) rfl)) rfl
set_option maxRecDepth 20000 in
theorem wq_687 : Cond.selects RX5 yX5_count yX5_count ∈ yW := yW_of (List.mem_append_right _ (List.mem_of_getElem? (i := 654) rfl)) rfl
set_option maxRecDepth 20000 in
theorem wq_688 : Cond.code yX5_count cX5_count 2 (some .int) ∈ yW := yW_of (List.mem_append_right _ (List.mem_of_getElem? (i := 655) rfl)) rfl
set_option maxRecDepth 20000 in
theorem wq_689 : Cond.methodLink RL 74 yX5_talk ∈ yW := yW_of (List.mem_append_right _ (List.mem_of_getElem? (i := 656) rfl)) rfl
set_option maxRecDepth 20000 in
theorem wq_690 : Cond.instanceMethod yX5_talk ∈ yW := yW_of (List.mem_append_right _ (List.mem_of_getElem? (i := 657) rfl)) rfl
set_option maxRecDepth 20000 in
theorem wq_691 : Cond.selects RX5 yX5_talk yX5_talk ∈ yW := yW_of (List.mem_append_right _ (List.mem_of_getElem? (i := 658) rfl)) rfl
set_option maxRecDepth 20000 in
theorem wq_692 : Cond.code yX5_talk cX5_talk 2 (some .int) ∈ yW := yW_of (List.mem_append_right _ (List.mem_of_getElem? (i := 659) rfl)) rfl
set_option maxRecDepth 20000 in
theorem wq_693 : Cond.methodLink RL 79 yX5_packed ∈ yW := yW_of (List.mem_append_right _ (List.mem_of_getElem? (i := 660) rfl)) rfl
set_option maxRecDepth 20000 in
theorem wq_694 : Cond.instanceMethod yX5_packed ∈ yW := yW_of (List.mem_append_right _ (List.mem_of_getElem? (i := 661) rfl)) rfl
set_option maxRecDepth 20000 in
theorem wq_695 : Cond.selects RX5 yX5_packed yX5_packed ∈ yW := yW_of (List.mem_append_right _ (List.mem_of_getElem? (i := 662) rfl)) rfl
set_option maxRecDepth 20000 in
theorem wq_696 : Cond.code yX5_packed cX5_packed 1 (some .int) ∈ yW := yW_of (List.mem_append_right _ (List.mem_of_getElem? (i := 663) rfl)) rfl
set_option maxRecDepth 20000 in
theorem wq_697 : Cond.methodLink RL 83 yX5_packAt ∈ yW := yW_of (List.mem_append_right _ (List.mem_of_getElem? (i := 664) rfl)) rfl
set_option maxRecDepth 20000 in
theorem wq_698 : Cond.instanceMethod yX5_packAt ∈ yW := yW_of (List.mem_append_right _ (List.mem_of_getElem? (i := 665) rfl)) rfl
set_option maxRecDepth 20000 in
theorem wq_699 : Cond.selects RX5 yX5_packAt yX5_packAt ∈ yW := yW_of (List.mem_append_right _ (List.mem_of_getElem? (i := 666) rfl)) rfl
set_option maxRecDepth 20000 in
theorem wq_700 : Cond.code yX5_packAt cX5_packAt 2 (some .int) ∈ yW := yW_of (List.mem_append_right _ (List.mem_of_getElem? (i := 667) rfl)) rfl
set_option maxRecDepth 20000 in
theorem wq_701 : Cond.methodLink RL 87 yX5_base ∈ yW := yW_of (List.mem_append_right _ (List.mem_of_getElem? (i := 668) rfl)) rfl
set_option maxRecDepth 20000 in
theorem wq_702 : Cond.instanceMethod yX5_base ∈ yW := yW_of (List.mem_append_right _ (List.mem_of_getElem? (i := 669) rfl)) rfl
set_option maxRecDepth 20000 in
theorem wq_703 : Cond.selects RX5 yX5_base yX5_base ∈ yW := yW_of (List.mem_append_right _ (List.mem_of_getElem? (i := 670) rfl)) rfl
set_option maxRecDepth 20000 in
theorem wq_704 : Cond.code yX5_base cX5_base 2 (some .int) ∈ yW := yW_of (List.mem_append_right _ (List.mem_of_getElem? (i := 671) rfl)) rfl
set_option maxRecDepth 20000 in
theorem wq_705 : Cond.methodLink RL 91 yX5_weight ∈ yW := yW_of (List.mem_append_right _ (List.mem_of_getElem? (i := 672) rfl)) rfl
set_option maxRecDepth 20000 in
theorem wq_706 : Cond.instanceMethod yX5_weight ∈ yW := yW_of (List.mem_append_right _ (List.mem_of_getElem? (i := 673) rfl)) rfl
set_option maxRecDepth 20000 in
theorem wq_707 : Cond.selects RX5 yX5_weight yX5_weight ∈ yW := yW_of (List.mem_append_right _ (List.mem_of_getElem? (i := 674) rfl)) rfl
set_option maxRecDepth 20000 in
theorem wq_708 : Cond.code yX5_weight cX5_weight 3 (some .int) ∈ yW := yW_of (List.mem_append_right _ (List.mem_of_getElem? (i := 675) rfl)) rfl
set_option maxRecDepth 20000 in
theorem wq_709 : Cond.methodLink RL 95 yX5_verdict ∈ yW := yW_of (List.mem_append_right _ (List.mem_of_getElem? (i := 676) rfl)) rfl
set_option maxRecDepth 20000 in
theorem wq_710 : Cond.instanceMethod yX5_verdict ∈ yW := yW_of (List.mem_append_right _ (List.mem_of_getElem? (i := 677) rfl)) rfl
set_option maxRecDepth 20000 in
theorem wq_711 : Cond.selects RX5 yX5_verdict yX5_verdict ∈ yW := yW_of (List.mem_append_right _ (List.mem_of_getElem? (i := 678) rfl)) rfl
set_option maxRecDepth 20000 in
theorem wq_712 : Cond.code yX5_verdict cX5_verdict 2 (some .int) ∈ yW := yW_of (List.mem_append_right _ (List.mem_of_getElem? (i := 679) rfl)) rfl
abbrev wsX4_isNode : List Cond := .code yX4_isNode cX4_isNode 1 (some .boolean) :: yW
abbrev wsX4_isClient : List Cond := .code yX4_isClient cX4_isClient 1 (some .boolean) :: yW
abbrev wsX4_isOwnReference : List Cond := .code yX4_isOwnReference cX4_isOwnReference 1 (some .boolean) :: yW
abbrev wsX4_isSet : List Cond := .code yX4_isSet cX4_isSet 1 (some .boolean) :: yW
abbrev wsX4_isIn : List Cond := .code yX4_isIn cX4_isIn 3 (some .boolean) :: yW
abbrev wsX4_isChosen : List Cond := .code yX4_isChosen cX4_isChosen 2 (some .boolean) :: yW
abbrev wsX0_isUp : List Cond := .code yX0_isUp cX0_isUp 1 (some .boolean) :: yW
abbrev wsX0_armWith : List Cond := .code yX0_armWith cX0_armWith 2 none :: yW
abbrev wsX0_write : List Cond := .code yX0_write cX0_write 1 (some .boolean) :: yW
abbrev wsX0_heldSet : List Cond := .code yX0_heldSet cX0_heldSet 1 (some .long) :: yW
abbrev wsX0_keep : List Cond := .code yX0_keep cX0_keep 2 none :: yW
abbrev wsJL_bitCount : List Cond := .code yJL_bitCount cJL_bitCount 2 (some .int) :: yW
abbrev wsX0_keepOnly : List Cond := .code yX0_keepOnly cX0_keepOnly 4 (some .int) :: yW
abbrev wsX0_valueOf : List Cond := .code yX0_valueOf cX0_valueOf 2 (some .int) :: yW
abbrev wsX0_writeMissing : List Cond := .code yX0_writeMissing cX0_writeMissing 6 (some .boolean) :: yW
abbrev wsX0_hasValues : List Cond := .code yX0_hasValues cX0_hasValues 3 (some .boolean) :: yW
abbrev wsX0_commitsOf : List Cond := .code yX0_commitsOf cX0_commitsOf 5 (some .long) :: yW
abbrev wsX0_emptyLog : List Cond := .code yX0_emptyLog cX0_emptyLog 2 (some .boolean) :: yW
abbrev wsX0_carryOutLog : List Cond := .code yX0_carryOutLog cX0_carryOutLog 2 (some .boolean) :: yW
abbrev wsX0_transact : List Cond := .code yX0_transact cX0_transact 3 (some .boolean) :: yW
abbrev wsX0_restore : List Cond := .code yX0_restore cX0_restore 3 (some .int) :: yW
abbrev wsX2_isFull : List Cond := .code yX2_isFull cX2_isFull 1 (some .boolean) :: yW
abbrev wsX2_isNumber : List Cond := .code yX2_isNumber cX2_isNumber 2 (some .boolean) :: yW
abbrev wsX2_isOfKind : List Cond := .code yX2_isOfKind cX2_isOfKind 3 (some .boolean) :: yW
abbrev wsX2_reachOf : List Cond := .code yX2_reachOf cX2_reachOf 2 (some .long) :: yW
abbrev wsX2_contentOf : List Cond := .code yX2_contentOf cX2_contentOf 2 (some .int) :: yW
abbrev wsX2_partsOf : List Cond := .code yX2_partsOf cX2_partsOf 2 (some .int) :: yW
abbrev wsX2_find : List Cond := .code yX2_find cX2_find 6 (some .int) :: yW
abbrev wsX2_add : List Cond := .code yX2_add cX2_add 8 (some .int) :: yW
abbrev wsX2_reachOfAll : List Cond := .code yX2_reachOfAll cX2_reachOfAll 6 (some .long) :: yW
abbrev wsX2_eachReachesOne : List Cond := .code yX2_eachReachesOne cX2_eachReachesOne 6 (some .boolean) :: yW
abbrev wsX2_allOfKind : List Cond := .code yX2_allOfKind cX2_allOfKind 5 (some .long) :: yW
abbrev wsX3_highest : List Cond := .code yX3_highest cX3_highest 6 (some .long) :: yW
abbrev wsX3_havesSent : List Cond := .code yX3_havesSent cX3_havesSent 1 (some .int) :: yW
abbrev wsX3_havesAcknowledged : List Cond := .code yX3_havesAcknowledged cX3_havesAcknowledged 1 (some .int) :: yW
abbrev wsX3_roundsHeld : List Cond := .code yX3_roundsHeld cX3_roundsHeld 1 (some .int) :: yW
abbrev wsX3_run : List Cond := .code yX3_run cX3_run 14 (some .long) :: yW
abbrev wsX1_memberSet : List Cond := .code yX1_memberSet cX1_memberSet 1 (some .long) :: yW
abbrev wsX1_length : List Cond := .code yX1_length cX1_length 1 (some .int) :: yW
abbrev wsX1_totalWeight : List Cond := .code yX1_totalWeight cX1_totalWeight 1 (some .int) :: yW
abbrev wsX1_isPlace : List Cond := .code yX1_isPlace cX1_isPlace 2 (some .boolean) :: yW
abbrev wsX1_objectAt : List Cond := .code yX1_objectAt cX1_objectAt 2 (some .int) :: yW
abbrev wsX1_baseAt : List Cond := .code yX1_baseAt cX1_baseAt 2 (some .int) :: yW
abbrev wsX1_differingDigits : List Cond := .code yX1_differingDigits cX1_differingDigits 5 (some .int) :: yW
abbrev wsX1_chooseBase : List Cond := .code yX1_chooseBase cX1_chooseBase 7 (some .int) :: yW
abbrev wsX1_placeKind : List Cond := .code yX1_placeKind cX1_placeKind 5 none :: yW
abbrev wsX1_fill : List Cond := .code yX1_fill cX1_fill 4 none :: yW
abbrev wsX4_holdsKind : List Cond := .code yX4_holdsKind cX4_holdsKind 4 (some .boolean) :: yW
abbrev wsX4_isEntry : List Cond := .code yX4_isEntry cX4_isEntry 3 (some .boolean) :: yW
abbrev wsX4_isCommitOrAbsent : List Cond := .code yX4_isCommitOrAbsent cX4_isCommitOrAbsent 3 (some .boolean) :: yW
abbrev wsX4_writeObject : List Cond := .code yX4_writeObject cX4_writeObject 7 (some .int) :: yW
abbrev wsX4_clearTargets : List Cond := .code yX4_clearTargets cX4_clearTargets 2 none :: yW
abbrev wsX4_aimAtOne : List Cond := .code yX4_aimAtOne cX4_aimAtOne 3 none :: yW
abbrev wsX4_aimAtValues : List Cond := .code yX4_aimAtValues cX4_aimAtValues 5 none :: yW
abbrev wsX4_verdictOn : List Cond := .code yX4_verdictOn cX4_verdictOn 5 (some .int) :: yW
abbrev wsX4_judge : List Cond := .code yX4_judge cX4_judge 6 (some .boolean) :: yW
abbrev wsX4_carryOutPush : List Cond := .code yX4_carryOutPush cX4_carryOutPush 4 (some .boolean) :: yW
abbrev wsX4_blob : List Cond := .code yX4_blob cX4_blob 3 (some .int) :: yW
abbrev wsX4_tree : List Cond := .code yX4_tree cX4_tree 5 (some .int) :: yW
abbrev wsX4_commit : List Cond := .code yX4_commit cX4_commit 8 (some .int) :: yW
abbrev wsX4_point : List Cond := .code yX4_point cX4_point 5 (some .int) :: yW
abbrev wsX4_fetch : List Cond := .code yX4_fetch cX4_fetch 11 (some .int) :: yW
abbrev wsX4_push : List Cond := .code yX4_push cX4_push 7 (some .int) :: yW
abbrev wsX4_arm : List Cond := .code yX4_arm cX4_arm 3 (some .boolean) :: yW
abbrev wsX4_recover : List Cond := .code yX4_recover cX4_recover 2 (some .int) :: yW
abbrev wsX4_collect : List Cond := .code yX4_collect cX4_collect 3 (some .int) :: yW
abbrev wsX4_up : List Cond := .code yX4_up cX4_up 2 (some .boolean) :: yW
abbrev wsX4_reference : List Cond := .code yX4_reference cX4_reference 4 (some .int) :: yW
abbrev wsX4_holds : List Cond := .code yX4_holds cX4_holds 3 (some .int) :: yW
abbrev wsX4_count : List Cond := .code yX4_count cX4_count 2 (some .int) :: yW
abbrev wsX4_talk : List Cond := .code yX4_talk cX4_talk 2 (some .int) :: yW
abbrev wsX4_packed : List Cond := .code yX4_packed cX4_packed 1 (some .int) :: yW
abbrev wsX4_packAt : List Cond := .code yX4_packAt cX4_packAt 2 (some .int) :: yW
abbrev wsX4_base : List Cond := .code yX4_base cX4_base 2 (some .int) :: yW
abbrev wsX4_weight : List Cond := .code yX4_weight cX4_weight 1 (some .int) :: yW
abbrev wsX4_verdict : List Cond := .code yX4_verdict cX4_verdict 2 (some .int) :: yW
abbrev wsX5_isNode : List Cond := .code yX5_isNode cX5_isNode 1 (some .boolean) :: yW
abbrev wsX5_many : List Cond := .code yX5_many cX5_many 4 (some .int) :: yW
abbrev wsX5_has : List Cond := .code yX5_has cX5_has 3 (some .boolean) :: yW
abbrev wsX5_reach : List Cond := .code yX5_reach cX5_reach 6 (some .long) :: yW
abbrev wsX5_tips : List Cond := .code yX5_tips cX5_tips 7 (some .long) :: yW
abbrev wsX5_write : List Cond := .code yX5_write cX5_write 2 (some .boolean) :: yW
abbrev wsX5_store : List Cond := .code yX5_store cX5_store 5 (some .boolean) :: yW
abbrev wsX5_wish : List Cond := .code yX5_wish cX5_wish 3 none :: yW
abbrev wsX5_wipe : List Cond := .code yX5_wipe cX5_wipe 2 (some .boolean) :: yW
abbrev wsX5_replay : List Cond := .code yX5_replay cX5_replay 3 (some .boolean) :: yW
abbrev wsX5_transact : List Cond := .code yX5_transact cX5_transact 4 (some .boolean) :: yW
abbrev wsX5_make : List Cond := .code yX5_make cX5_make 7 (some .int) :: yW
abbrev wsX5_entry : List Cond := .code yX5_entry cX5_entry 3 (some .boolean) :: yW
abbrev wsX5_blob : List Cond := .code yX5_blob cX5_blob 3 (some .int) :: yW
abbrev wsX5_tree : List Cond := .code yX5_tree cX5_tree 4 (some .int) :: yW
abbrev wsX5_commit : List Cond := .code yX5_commit cX5_commit 7 (some .int) :: yW
abbrev wsX5_point : List Cond := .code yX5_point cX5_point 4 (some .int) :: yW
abbrev wsX5_place : List Cond := .code yX5_place cX5_place 6 none :: yW
abbrev wsX5_pack : List Cond := .code yX5_pack cX5_pack 5 none :: yW
abbrev wsX5_allReach : List Cond := .code yX5_allReach cX5_allReach 6 (some .boolean) :: yW
abbrev wsX5_converse : List Cond := .code yX5_converse cX5_converse 15 (some .long) :: yW
abbrev wsX5_fetch : List Cond := .code yX5_fetch cX5_fetch 9 (some .int) :: yW
abbrev wsX5_judge : List Cond := .code yX5_judge cX5_judge 4 (some .int) :: yW
abbrev wsX5_carry : List Cond := .code yX5_carry cX5_carry 12 (some .boolean) :: yW
abbrev wsX5_push : List Cond := .code yX5_push cX5_push 5 (some .int) :: yW
abbrev wsX5_arm : List Cond := .code yX5_arm cX5_arm 3 (some .boolean) :: yW
abbrev wsX5_recover : List Cond := .code yX5_recover cX5_recover 4 (some .int) :: yW
abbrev wsX5_collect : List Cond := .code yX5_collect cX5_collect 5 (some .int) :: yW
abbrev wsX5_up : List Cond := .code yX5_up cX5_up 2 (some .boolean) :: yW
abbrev wsX5_reference : List Cond := .code yX5_reference cX5_reference 4 (some .int) :: yW
abbrev wsX5_holds : List Cond := .code yX5_holds cX5_holds 3 (some .int) :: yW
abbrev wsX5_count : List Cond := .code yX5_count cX5_count 2 (some .int) :: yW
abbrev wsX5_talk : List Cond := .code yX5_talk cX5_talk 2 (some .int) :: yW
abbrev wsX5_packed : List Cond := .code yX5_packed cX5_packed 1 (some .int) :: yW
abbrev wsX5_packAt : List Cond := .code yX5_packAt cX5_packAt 2 (some .int) :: yW
abbrev wsX5_base : List Cond := .code yX5_base cX5_base 2 (some .int) :: yW
abbrev wsX5_weight : List Cond := .code yX5_weight cX5_weight 3 (some .int) :: yW
abbrev wsX5_verdict : List Cond := .code yX5_verdict cX5_verdict 2 (some .int) :: yW
abbrev wsX0_init : List Cond := .code yX0_init cX0_init 2 none :: yW
abbrev wsX1_init : List Cond := .code yX1_init cX1_init 1 none :: yW
abbrev wsX2_init : List Cond := .code yX2_init cX2_init 1 none :: yW
abbrev wsX3_init : List Cond := .code yX3_init cX3_init 1 none :: yW
abbrev wsX4_init : List Cond := .code yX4_init cX4_init 2 none :: yW
abbrev wsX5_init : List Cond := .code yX5_init cX5_init 1 none :: yW
set_option maxRecDepth 20000 in
theorem inX0 : ∀ w ∈ u_ws RX0 TX0 7, w ∈ yW := by
  intro w hw
  obtain ⟨j, hj, rfl⟩ := List.mem_map.mp hw
  have hj := List.mem_range.mp hj
  rcases (show j = 0 ∨ j = 1 ∨ j = 2 ∨ j = 3 ∨ j = 4 ∨ j = 5 ∨ j = 6 by omega) with rfl | rfl | rfl | rfl | rfl | rfl | rfl
  · exact yW_of (List.mem_append_right _ (List.mem_of_getElem? (i := 57) rfl)) rfl
  · exact yW_of (List.mem_append_right _ (List.mem_of_getElem? (i := 59) rfl)) rfl
  · exact yW_of (List.mem_append_right _ (List.mem_of_getElem? (i := 61) rfl)) rfl
  · exact yW_of (List.mem_append_right _ (List.mem_of_getElem? (i := 63) rfl)) rfl
  · exact yW_of (List.mem_append_right _ (List.mem_of_getElem? (i := 65) rfl)) rfl
  · exact yW_of (List.mem_append_right _ (List.mem_of_getElem? (i := 67) rfl)) rfl
  · exact yW_of (List.mem_append_right _ (List.mem_of_getElem? (i := 69) rfl)) rfl
set_option maxRecDepth 20000 in
theorem inX1 : ∀ w ∈ u_ws RX1 TX1 6, w ∈ yW := by
  intro w hw
  obtain ⟨j, hj, rfl⟩ := List.mem_map.mp hw
  have hj := List.mem_range.mp hj
  rcases (show j = 0 ∨ j = 1 ∨ j = 2 ∨ j = 3 ∨ j = 4 ∨ j = 5 by omega) with rfl | rfl | rfl | rfl | rfl | rfl
  · exact yW_of (List.mem_append_right _ (List.mem_of_getElem? (i := 100) rfl)) rfl
  · exact yW_of (List.mem_append_right _ (List.mem_of_getElem? (i := 102) rfl)) rfl
  · exact yW_of (List.mem_append_right _ (List.mem_of_getElem? (i := 104) rfl)) rfl
  · exact yW_of (List.mem_append_right _ (List.mem_of_getElem? (i := 106) rfl)) rfl
  · exact yW_of (List.mem_append_right _ (List.mem_of_getElem? (i := 108) rfl)) rfl
  · exact yW_of (List.mem_append_right _ (List.mem_of_getElem? (i := 110) rfl)) rfl
set_option maxRecDepth 20000 in
theorem inX2 : ∀ w ∈ u_ws RX2 TX2 6, w ∈ yW := by
  intro w hw
  obtain ⟨j, hj, rfl⟩ := List.mem_map.mp hw
  have hj := List.mem_range.mp hj
  rcases (show j = 0 ∨ j = 1 ∨ j = 2 ∨ j = 3 ∨ j = 4 ∨ j = 5 by omega) with rfl | rfl | rfl | rfl | rfl | rfl
  · exact yW_of (List.mem_append_right _ (List.mem_of_getElem? (i := 28) rfl)) rfl
  · exact yW_of (List.mem_append_right _ (List.mem_of_getElem? (i := 30) rfl)) rfl
  · exact yW_of (List.mem_append_right _ (List.mem_of_getElem? (i := 32) rfl)) rfl
  · exact yW_of (List.mem_append_right _ (List.mem_of_getElem? (i := 34) rfl)) rfl
  · exact yW_of (List.mem_append_right _ (List.mem_of_getElem? (i := 36) rfl)) rfl
  · exact yW_of (List.mem_append_right _ (List.mem_of_getElem? (i := 38) rfl)) rfl
set_option maxRecDepth 20000 in
theorem inX3 : ∀ w ∈ u_ws RX3 TX3 3, w ∈ yW := by
  intro w hw
  obtain ⟨j, hj, rfl⟩ := List.mem_map.mp hw
  have hj := List.mem_range.mp hj
  rcases (show j = 0 ∨ j = 1 ∨ j = 2 by omega) with rfl | rfl | rfl
  · exact yW_of (List.mem_append_right _ (List.mem_of_getElem? (i := 81) rfl)) rfl
  · exact yW_of (List.mem_append_right _ (List.mem_of_getElem? (i := 83) rfl)) rfl
  · exact yW_of (List.mem_append_right _ (List.mem_of_getElem? (i := 85) rfl)) rfl
set_option maxRecDepth 20000 in
theorem inX4 : ∀ w ∈ u_ws RX4 TX4 6, w ∈ yW := by
  intro w hw
  obtain ⟨j, hj, rfl⟩ := List.mem_map.mp hw
  have hj := List.mem_range.mp hj
  rcases (show j = 0 ∨ j = 1 ∨ j = 2 ∨ j = 3 ∨ j = 4 ∨ j = 5 by omega) with rfl | rfl | rfl | rfl | rfl | rfl
  · exact yW_of (List.mem_append_right _ (List.mem_of_getElem? (i := 119) rfl)) rfl
  · exact yW_of (List.mem_append_right _ (List.mem_of_getElem? (i := 121) rfl)) rfl
  · exact yW_of (List.mem_append_right _ (List.mem_of_getElem? (i := 123) rfl)) rfl
  · exact yW_of (List.mem_append_right _ (List.mem_of_getElem? (i := 125) rfl)) rfl
  · exact yW_of (List.mem_append_right _ (List.mem_of_getElem? (i := 127) rfl)) rfl
  · exact yW_of (List.mem_append_right _ (List.mem_of_getElem? (i := 129) rfl)) rfl
set_option maxRecDepth 20000 in
theorem inX5 : ∀ w ∈ u_ws RX5 TX5 25, w ∈ yW := by
  intro w hw
  obtain ⟨j, hj, rfl⟩ := List.mem_map.mp hw
  have hj := List.mem_range.mp hj
  rcases (show j = 0 ∨ j = 1 ∨ j = 2 ∨ j = 3 ∨ j = 4 ∨ j = 5 ∨ j = 6 ∨ j = 7 ∨ j = 8 ∨ j = 9 ∨ j = 10 ∨ j = 11 ∨ j = 12 ∨ j = 13 ∨ j = 14 ∨ j = 15 ∨ j = 16 ∨ j = 17 ∨ j = 18 ∨ j = 19 ∨ j = 20 ∨ j = 21 ∨ j = 22 ∨ j = 23 ∨ j = 24 by omega) with rfl | rfl | rfl | rfl | rfl | rfl | rfl | rfl | rfl | rfl | rfl | rfl | rfl | rfl | rfl | rfl | rfl | rfl | rfl | rfl | rfl | rfl | rfl | rfl | rfl
  · exact yW_of (List.mem_append_right _ (List.mem_of_getElem? (i := 477) rfl)) rfl
  · exact yW_of (List.mem_append_right _ (List.mem_of_getElem? (i := 479) rfl)) rfl
  · exact yW_of (List.mem_append_right _ (List.mem_of_getElem? (i := 481) rfl)) rfl
  · exact yW_of (List.mem_append_right _ (List.mem_of_getElem? (i := 483) rfl)) rfl
  · exact yW_of (List.mem_append_right _ (List.mem_of_getElem? (i := 485) rfl)) rfl
  · exact yW_of (List.mem_append_right _ (List.mem_of_getElem? (i := 487) rfl)) rfl
  · exact yW_of (List.mem_append_right _ (List.mem_of_getElem? (i := 489) rfl)) rfl
  · exact yW_of (List.mem_append_right _ (List.mem_of_getElem? (i := 491) rfl)) rfl
  · exact yW_of (List.mem_append_right _ (List.mem_of_getElem? (i := 493) rfl)) rfl
  · exact yW_of (List.mem_append_right _ (List.mem_of_getElem? (i := 495) rfl)) rfl
  · exact yW_of (List.mem_append_right _ (List.mem_of_getElem? (i := 497) rfl)) rfl
  · exact yW_of (List.mem_append_right _ (List.mem_of_getElem? (i := 499) rfl)) rfl
  · exact yW_of (List.mem_append_right _ (List.mem_of_getElem? (i := 501) rfl)) rfl
  · exact yW_of (List.mem_append_right _ (List.mem_of_getElem? (i := 503) rfl)) rfl
  · exact yW_of (List.mem_append_right _ (List.mem_of_getElem? (i := 505) rfl)) rfl
  · exact yW_of (List.mem_append_right _ (List.mem_of_getElem? (i := 507) rfl)) rfl
  · exact yW_of (List.mem_append_right _ (List.mem_of_getElem? (i := 509) rfl)) rfl
  · exact yW_of (List.mem_append_right _ (List.mem_of_getElem? (i := 511) rfl)) rfl
  · exact yW_of (List.mem_append_right _ (List.mem_of_getElem? (i := 513) rfl)) rfl
  · exact yW_of (List.mem_append_right _ (List.mem_of_getElem? (i := 515) rfl)) rfl
  · exact yW_of (List.mem_append_right _ (List.mem_of_getElem? (i := 517) rfl)) rfl
  · exact yW_of (List.mem_append_right _ (List.mem_of_getElem? (i := 519) rfl)) rfl
  · exact yW_of (List.mem_append_right _ (List.mem_of_getElem? (i := 521) rfl)) rfl
  · exact yW_of (List.mem_append_right _ (List.mem_of_getElem? (i := 523) rfl)) rfl
  · exact yW_of (List.mem_append_right _ (List.mem_of_getElem? (i := 525) rfl)) rfl
end
section
/-! what the rows of the contracts are made of -/
def yB : Bool → Int32
  | true => 1
  | false => 0
theorem yB_0 {b : Bool} : yB b = 0 ↔ b = false := by cases b <;> decide
theorem yB_1 {b : Bool} (h : ¬ yB b = 0) : b = true := by
  cases b with
  | true => rfl
  | false => exact absurd rfl h
theorem yB_n (b : Bool) : narrow .boolean (.int (yB b)) = .int (yB b) := by cases b <;> rfl
theorem yB_fit (b : Bool) : fits .boolean (.int (yB b)) = true := by cases b <;> rfl
theorem yB_nar (b : Bool) : vp_nar .boolean (yB b) = yB b := by cases b <;> rfl
def yb {α β : Type} (x : α) (k : α → β) : β := k x
theorem yb_e {α β : Type} {x p : α} {k : α → β} {r : β} (hp : p = x) (h : r = yb x k) : r = k p := by
  subst hp
  exact h
def yn {β : Type} (x : Int32) (k : Nat → β) : β := k x.toNatClampNeg
theorem yn_e {β : Type} {x : Int32} {n : Nat} {k : Nat → β} {r : β} (hn : x.toNatClampNeg = n) (h : r = yn x k) : r = k n := by
  subst hn
  exact h
theorem yt {c : Prop} [Decidable c] {α : Type} {a b r : α} (h : c) (e : r = if c then a else b) : r = a := by
  rw [if_pos h] at e
  exact e
theorem yf {c : Prop} [Decidable c] {α : Type} {a b r : α} (h : ¬ c) (e : r = if c then a else b) : r = b := by
  rw [if_neg h] at e
  exact e
theorem yBt {x : Bool} {α : Type} {a b r : α} (h : x = true) (e : r = if x = true then a else b) : r = a := yt h e
theorem yBf {x : Bool} {α : Type} {a b r : α} (h : x = false) (e : r = if x = true then a else b) : r = b := yf (by rw [h]; decide) e
def ylshl (x : Int64) (y : Int32) : Int64 := x <<< (y.toInt64 &&& 63)
def ylshr (x : Int64) (y : Int32) : Int64 := x >>> (y.toInt64 &&& 63)
def ylushr (x : Int64) (y : Int32) : Int64 := (x.toUInt64 >>> (y.toInt64.toUInt64 &&& Int64.toUInt64 63)).toInt64
def yishr (x y : Int32) : Int32 := x >>> (y &&& 31)
def yishl (x y : Int32) : Int32 := x <<< (y &&& 31)
def yiushr (x y : Int32) : Int32 := (x.toUInt32 >>> (y.toUInt32 &&& Int32.toUInt32 31)).toInt32
def yupB (g : Nat → Bool) (k : Nat) (b : Bool) : Nat → Bool := fun j => if j = k then b else g j
def yupN (g : Nat → Nat) (k n : Nat) : Nat → Nat := fun j => if j = k then n else g j
def yupF {α : Type} (f : Nat → α) (k : Nat) (v : α) : Nat → α := fun j => if j = k then v else f j
theorem yy_inc (a : Nat) : nI a + Int32.ofInt 1 = nI (a + 1) := nI_1 a
theorem yy_dec (a : Nat) : nI a + Int32.ofInt (-1) = nI a - 1 := by
  rw [show Int32.ofInt (-1) = -1 from by decide, Int32.sub_eq_add_neg]
theorem yy_incI (a : Int32) : a + Int32.ofInt 1 = a + 1 := rfl
theorem yy_decI (a : Int32) : a + Int32.ofInt (-1) = a - 1 := by
  rw [show Int32.ofInt (-1) = -1 from by decide, Int32.sub_eq_add_neg]
theorem yy_cmp0 {x y : Int64} (h : lg_cmp x y = 0) : x = y := by
  unfold lg_cmp at h
  split at h
  · exact absurd h (by decide)
  · split at h
    · assumption
    · exact absurd h (by decide)
theorem yy_cmp1 {x y : Int64} (h : ¬ lg_cmp x y = 0) : ¬ x = y := by
  intro e
  subst e
  exact h (by simp [lg_cmp])
-- indices
theorem yy_int {x : Int32} : x < 0 ↔ x.toInt < 0 := by rw [Int32.lt_iff_toInt_lt]; rfl
theorem yy_lti {x y : Int32} : x < y ↔ x.toInt < y.toInt := Int32.lt_iff_toInt_lt
theorem yy_lei {x y : Int32} : x ≤ y ↔ x.toInt ≤ y.toInt := Int32.le_iff_toInt_le
theorem yy_in {x N : Int32} {n : Nat} (h0 : ¬ x < 0) (h : ¬ N ≤ x) (hN : N.toInt = n) : vp_in x n := by
  rw [vp_in_iff]
  rw [yy_lti] at h0
  rw [yy_lei] at h
  have e0 : (0 : Int32).toInt = 0 := rfl
  omega
theorem yy_in3 {x : Int32} {n N : Nat} (h0 : ¬ x < 0) (h : x < nI n) (hn : n ≤ N) (hN : N < 2 ^ 31) : vp_in x N := by
  rw [vp_in_iff]
  rw [yy_lti] at h0 h
  have e0 : (0 : Int32).toInt = 0 := rfl
  rw [nI_toInt (by omega)] at h
  omega
theorem yy_in5 {x : Int32} {n N : Nat} (h0 : ¬ x < 0) (h : ¬ nI n ≤ x) (hn : n ≤ N) (hN : N < 2 ^ 31) : vp_in x N := by
  rw [vp_in_iff]
  rw [yy_lti] at h0
  rw [yy_lei] at h
  have e0 : (0 : Int32).toInt = 0 := rfl
  rw [nI_toInt (by omega)] at h
  omega
theorem yy_in4 {x : Int32} (h0 : ¬ x < 0) (h : x ≤ 3) : vp_in x 4 := by
  rw [vp_in_iff]
  rw [yy_lti] at h0
  rw [yy_lei] at h
  have e0 : (0 : Int32).toInt = 0 := rfl
  have e3 : (3 : Int32).toInt = 3 := rfl
  omega
theorem yy_nat {x : Int32} {n : Nat} (h : vp_in x n) (hn : n < 2 ^ 31) : ∃ k : Nat, x.toNatClampNeg = k ∧ k < n ∧ x = nI k := by
  obtain ⟨j, hj, rfl⟩ := vp_in_of h hn
  exact ⟨j, nI_clamp (by omega), hj, rfl⟩
theorem yy_nat4 {x : Int32} (h0 : ¬ x < 0) (h : x ≤ 3) : ∃ k : Nat, x.toNatClampNeg = k ∧ k < 4 ∧ x = nI k := yy_nat (yy_in4 h0 h) (by decide)
theorem yy_nat8 {x : Int32} (h0 : ¬ x < 0) (h : x ≤ 7) : ∃ k : Nat, x.toNatClampNeg = k ∧ k < 8 ∧ x = nI k := by
  refine yy_nat ?_ (by decide)
  rw [vp_in_iff]
  rw [yy_lti] at h0
  rw [yy_lei] at h
  have e0 : (0 : Int32).toInt = 0 := rfl
  have e3 : (7 : Int32).toInt = 7 := rfl
  omega
theorem yy_natC {x : Int32} (h0 : ¬ x < 1) (h : ¬ 2 < x) : ∃ k : Nat, x.toNatClampNeg = k ∧ k < 3 ∧ x = nI k := by
  refine yy_nat ?_ (by decide)
  rw [vp_in_iff]
  rw [yy_lti] at h0 h
  have e0 : (1 : Int32).toInt = 1 := rfl
  have e3 : (2 : Int32).toInt = 2 := rfl
  omega
theorem yy_lt60 {i : Nat} (h : ¬ nI i = 60) (hi : i ≤ 60) : i < 60 := by
  rcases Nat.lt_or_eq_of_le hi with h1 | h1
  · exact h1
  · subst h1
    exact absurd rfl h
theorem yy_sw3 {x : Int32} (h0 : ¬ x = 0) (h1 : ¬ x = 1) (h2 : ¬ x = 2) : x.toInt < 0 ∨ 2 < x.toInt := by
  have a0 := lv_neT h0 (a := 0) rfl
  have a1 := lv_neT h1 (a := 1) rfl
  have a2 := lv_neT h2 (a := 2) rfl
  omega
section YR
variable {p : Program} {l : Launch} {e : Env} {R : Room} {s : State} {m : MethodId} {args : Array Value} {below : List Frame} {meth : Method} {c : Code} {H : Heap} {locs : List Loc} {cells slots : Nat} {Q : State → Prop}
variable {cc : ByteArray} {pc : Nat} {ls : Array Slot} {rest : List Value} {D : va_G} {cl : List vw_C} {A : Nat → Prop} {a : Nat} {tys : List (ClassId × FieldType)} {ws : va_W} {H0 : Heap}
theorem yr_iaddN (hexec : p.tables.exec = Jvm.exec) (hb : c.code = cc) {x y : Nat} (hdg : decode cc pc = .ok (.iadd, 1)) (k : W p l e R s m args below meth c H locs cells slots Q (F0 m (pc + 1) ls (.int (nI (x + y)) :: rest))) : W p l e R s m args below meth c H locs cells slots Q (F0 m pc ls (.int (nI y) :: .int (nI x) :: rest)) :=
  lv_iadd hexec hb hdg (by rw [nI_add]; exact k)
theorem yr_imulN (hexec : p.tables.exec = Jvm.exec) (hb : c.code = cc) {x y : Nat} (hdg : decode cc pc = .ok (.imul, 1)) (k : W p l e R s m args below meth c H locs cells slots Q (F0 m (pc + 1) ls (.int (nI (x * y)) :: rest))) : W p l e R s m args below meth c H locs cells slots Q (F0 m pc ls (.int (nI y) :: .int (nI x) :: rest)) :=
  lv_imul hexec hb hdg (by rw [pk_mul]; exact k)
theorem yr_ishr (hexec : p.tables.exec = Jvm.exec) (hb : c.code = cc) {x y : Int32} (hdg : decode cc pc = .ok (.ishr, 1)) (k : W p l e R s m args below meth c H locs cells slots Q (F0 m (pc + 1) ls (.int (yishr x y) :: rest))) : W p l e R s m args below meth c H locs cells slots Q (F0 m pc ls (.int y :: .int x :: rest)) :=
  lv_ishr hexec hb hdg k
theorem yr_iushr (hexec : p.tables.exec = Jvm.exec) (hb : c.code = cc) {x y : Int32} (hdg : decode cc pc = .ok (.iushr, 1)) (k : W p l e R s m args below meth c H locs cells slots Q (F0 m (pc + 1) ls (.int (yiushr x y) :: rest))) : W p l e R s m args below meth c H locs cells slots Q (F0 m pc ls (.int y :: .int x :: rest)) :=
  lv_iushr (v := yiushr x y) hexec hb hdg rfl k
theorem yr_iald (hexec : p.tables.exec = Jvm.exec) (hb : c.code = cc) (hK : va_K D cl tys s) (hP : va_P D cl ws H) (q0 t0 : Nat) {cA : ClassId} {n : Nat} {f : Nat → Int32} {j : Nat} (ha : ws[q0]? = some (a, .inl (cA, n, .inl f))) (ht : tys[t0]? = some (cA, .int)) {i : Int32} (hi : i = nI j) (hj : j < n) (hn : n < 2 ^ 31) (hdg : decode cc pc = .ok (.iaload, 1))
    (kk : W p l e R s m args below meth c H locs cells slots Q (F0 m (pc + 1) ls (.int (f j) :: rest))) : W p l e R s m args below meth c H locs cells slots Q (F0 m pc ls (.int i :: .ref a :: rest)) := by
  subst hi
  refine va_iald hexec hb hK hP q0 t0 ha ht (vp_in_nI hj hn) hdg ?_
  rw [nI_clamp (by omega)]
  exact kk
theorem yr_lald (hexec : p.tables.exec = Jvm.exec) (hb : c.code = cc) (hK : va_K D cl tys s) (hP : va_P D cl ws H) (q0 t0 : Nat) {cA : ClassId} {n : Nat} {f : Nat → Int64} {j : Nat} (ha : ws[q0]? = some (a, .inl (cA, n, .inr (.inl f)))) (ht : tys[t0]? = some (cA, .long)) {i : Int32} (hi : i = nI j) (hj : j < n) (hn : n < 2 ^ 31) (hdg : decode cc pc = .ok (.laload, 1))
    (kk : W p l e R s m args below meth c H locs cells slots Q (F0 m (pc + 1) ls (.long (f j) :: rest))) : W p l e R s m args below meth c H locs cells slots Q (F0 m pc ls (.int i :: .ref a :: rest)) := by
  subst hi
  refine va_lald hexec hb hK hP q0 t0 ha ht (vp_in_nI hj hn) hdg ?_
  rw [nI_clamp (by omega)]
  exact kk
theorem yr_zaldB (hexec : p.tables.exec = Jvm.exec) (hb : c.code = cc) (hK : va_K D cl tys s) (hP : va_P D cl ws H) (q0 t0 : Nat) {cA : ClassId} {n : Nat} {g : Nat → Bool} {j : Nat} (ha : ws[q0]? = some (a, .inl (cA, n, .inl (fun q => yB (g q))))) (ht : tys[t0]? = some (cA, .boolean)) {i : Int32} (hi : i = nI j) (hj : j < n) (hn : n < 2 ^ 31) (hdg : decode cc pc = .ok (.baload, 1))
    (kk : W p l e R s m args below meth c H locs cells slots Q (F0 m (pc + 1) ls (.int (yB (g j)) :: rest))) : W p l e R s m args below meth c H locs cells slots Q (F0 m pc ls (.int i :: .ref a :: rest)) := by
  subst hi
  refine va_zald hexec hb hK hP q0 t0 ha ht (vp_in_nI hj hn) hdg ?_
  rw [nI_clamp (by omega)]
  exact kk
theorem yr_ialdN (hexec : p.tables.exec = Jvm.exec) (hb : c.code = cc) (hK : va_K D cl tys s) (hP : va_P D cl ws H) (q0 t0 : Nat) {cA : ClassId} {n M : Nat} {g : Nat → Nat} {j : Nat} (ha : ws[q0]? = some (a, .inl (cA, n, .inl (fun q => nI (g q % M))))) (ht : tys[t0]? = some (cA, .int)) {i : Int32} (hi : i = nI j) (hj : j < n) (hn : n < 2 ^ 31) (hdg : decode cc pc = .ok (.iaload, 1))
    (kk : W p l e R s m args below meth c H locs cells slots Q (F0 m (pc + 1) ls (.int (nI (g j % M)) :: rest))) : W p l e R s m args below meth c H locs cells slots Q (F0 m pc ls (.int i :: .ref a :: rest)) := by
  subst hi
  refine va_iald hexec hb hK hP q0 t0 ha ht (vp_in_nI hj hn) hdg ?_
  rw [nI_clamp (by omega)]
  exact kk
theorem yr_aldq (hexec : p.tables.exec = Jvm.exec) (hb : c.code = cc) (hK : va_K D cl tys s) (hP : va_P D cl ws H) (q0 t0 : Nat) {cA : ClassId} {C : String} {n : Nat} {f : Nat → Option Nat} {j b : Nat} (ha : ws[q0]? = some (a, .inl (cA, n, .inr (.inr (.inr (.inr f)))))) (ht : tys[t0]? = some (cA, .object C)) {i : Int32} (hi : i = nI j) (hj : j < n) (hn : n < 2 ^ 31) (hfj : f j = some b) (hdg : decode cc pc = .ok (.aaload, 1))
    (kk : W p l e R s m args below meth c H locs cells slots Q (F0 m (pc + 1) ls (.ref b :: rest))) : W p l e R s m args below meth c H locs cells slots Q (F0 m pc ls (.int i :: .ref a :: rest)) := by
  subst hi
  refine va_aldq hexec hb hK hP q0 t0 ha ht (vp_in_nI hj hn) hdg ?_
  rw [nI_clamp (by omega), hfj]
  exact kk
theorem yr_iast (hexec : p.tables.exec = Jvm.exec) (hb : c.code = cc) (hK : va_K D cl tys s) (hP : va_P D cl ws H) (hD : va_D A ws) (hS : va_S A H0 H locs) (q0 t0 : Nat) {cA : ClassId} {n : Nat} {f : Nat → Int32} {j : Nat} (ha : ws[q0]? = some (a, .inl (cA, n, .inl f))) (ht : tys[t0]? = some (cA, .int)) {i x : Int32} (hi : i = nI j) (hj : j < n) (hn : n < 2 ^ 31) (hdg : decode cc pc = .ok (.iastore, 1))
    (kk : ∀ (H1 : Heap) (locs1 : List Loc), va_P D cl (ws.set q0 (a, .inl (cA, n, .inl (upd f j x)))) H1 → va_D A (ws.set q0 (a, .inl (cA, n, .inl (upd f j x)))) → va_S A H0 H1 locs1 → W p l e R s m args below meth c H1 locs1 cells slots Q (F0 m (pc + 1) ls rest)) : W p l e R s m args below meth c H locs cells slots Q (F0 m pc ls (.int x :: .int i :: .ref a :: rest)) := by
  subst hi
  have hc : (nI j).toNatClampNeg = j := nI_clamp (by omega)
  refine va_iast hexec hb hK hP hD hS q0 t0 ha ht (vp_in_nI hj hn) hdg ?_
  rw [hc]
  exact kk
theorem yr_last (hexec : p.tables.exec = Jvm.exec) (hb : c.code = cc) (hK : va_K D cl tys s) (hP : va_P D cl ws H) (hD : va_D A ws) (hS : va_S A H0 H locs) (q0 t0 : Nat) {cA : ClassId} {n : Nat} {f : Nat → Int64} {j : Nat} (ha : ws[q0]? = some (a, .inl (cA, n, .inr (.inl f)))) (ht : tys[t0]? = some (cA, .long)) {i : Int32} {x : Int64} (hi : i = nI j) (hj : j < n) (hn : n < 2 ^ 31) (hdg : decode cc pc = .ok (.lastore, 1))
    (kk : ∀ (H1 : Heap) (locs1 : List Loc), va_P D cl (ws.set q0 (a, .inl (cA, n, .inr (.inl (vp_updL f j x))))) H1 → va_D A (ws.set q0 (a, .inl (cA, n, .inr (.inl (vp_updL f j x))))) → va_S A H0 H1 locs1 → W p l e R s m args below meth c H1 locs1 cells slots Q (F0 m (pc + 1) ls rest)) : W p l e R s m args below meth c H locs cells slots Q (F0 m pc ls (.long x :: .int i :: .ref a :: rest)) := by
  subst hi
  have hc : (nI j).toNatClampNeg = j := nI_clamp (by omega)
  refine va_last hexec hb hK hP hD hS q0 t0 ha ht (vp_in_nI hj hn) hdg ?_
  rw [hc]
  exact kk
theorem yr_zastB {g : Nat → Bool} {b : Bool} (hexec : p.tables.exec = Jvm.exec) (hb : c.code = cc) (hK : va_K D cl tys s) (hP : va_P D cl ws H) (hD : va_D A ws) (hS : va_S A H0 H locs) (q0 t0 : Nat) {cA : ClassId} {n j : Nat} (ha : ws[q0]? = some (a, .inl (cA, n, .inl (fun q => yB (g q))))) (ht : tys[t0]? = some (cA, .boolean)) {i : Int32} (hi : i = nI j) (hj : j < n) (hn : n < 2 ^ 31) (hdg : decode cc pc = .ok (.bastore, 1))
    (kk : ∀ (H1 : Heap) (locs1 : List Loc), va_P D cl (ws.set q0 (a, .inl (cA, n, .inl (fun q => yB (yupB g j b q))))) H1 → va_D A (ws.set q0 (a, .inl (cA, n, .inl (fun q => yB (yupB g j b q))))) → va_S A H0 H1 locs1 → W p l e R s m args below meth c H1 locs1 cells slots Q (F0 m (pc + 1) ls rest)) : W p l e R s m args below meth c H locs cells slots Q (F0 m pc ls (.int (yB b) :: .int i :: .ref a :: rest)) := by
  subst hi
  have hc : (nI j).toNatClampNeg = j := nI_clamp (by omega)
  have hu : upd (fun q => yB (g q)) j (yB b) = fun q => yB (yupB g j b q) := by
    funext q
    by_cases hq : q = j
    · simp [upd, yupB, hq]
    · simp [upd, yupB, hq]
  refine va_zast hexec hb hK hP hD hS q0 t0 ha ht (vp_in_nI hj hn) hdg ?_
  rw [hc, yB_nar, hu]
  exact kk
theorem yr_iastN {g : Nat → Nat} {M v : Nat} (hexec : p.tables.exec = Jvm.exec) (hb : c.code = cc) (hK : va_K D cl tys s) (hP : va_P D cl ws H) (hD : va_D A ws) (hS : va_S A H0 H locs) (q0 t0 : Nat) {cA : ClassId} {n j : Nat} (ha : ws[q0]? = some (a, .inl (cA, n, .inl (fun q => nI (g q % M))))) (ht : tys[t0]? = some (cA, .int)) {i : Int32} (hi : i = nI j) (hj : j < n) (hn : n < 2 ^ 31) (hv : v < M) (hdg : decode cc pc = .ok (.iastore, 1))
    (kk : ∀ (H1 : Heap) (locs1 : List Loc), va_P D cl (ws.set q0 (a, .inl (cA, n, .inl (fun q => nI (yupN g j v q % M))))) H1 → va_D A (ws.set q0 (a, .inl (cA, n, .inl (fun q => nI (yupN g j v q % M))))) → va_S A H0 H1 locs1 → W p l e R s m args below meth c H1 locs1 cells slots Q (F0 m (pc + 1) ls rest)) : W p l e R s m args below meth c H locs cells slots Q (F0 m pc ls (.int (nI v) :: .int i :: .ref a :: rest)) := by
  subst hi
  have hc : (nI j).toNatClampNeg = j := nI_clamp (by omega)
  have hu : upd (fun q => nI (g q % M)) j (nI v) = fun q => nI (yupN g j v q % M) := by
    funext q
    by_cases hq : q = j
    · simp [upd, yupN, hq, Nat.mod_eq_of_lt hv]
    · simp [upd, yupN, hq]
  refine va_iast hexec hb hK hP hD hS q0 t0 ha ht (vp_in_nI hj hn) hdg ?_
  rw [hc, hu]
  exact kk
end YR
/-! words: every method's list is its own code and then yW -/
theorem yy_tl {c : Cond} {P : List Cond} (h : ∀ w ∈ P, w ∈ yW) : ∀ w ∈ P, w ∈ c :: yW := fun w hw => List.mem_cons_of_mem _ (h w hw)
theorem yy_good {c1 c2 : Cond} (h : c2 ∈ yW) : GoodIn (c1 :: yW) (c2 :: yW) := by
  intro w hw
  rcases List.mem_cons.mp hw with rfl | hw
  · exact ⟨List.mem_cons_of_mem _ h, good_of_word (List.mem_filter.mp h).2⟩
  · exact ⟨List.mem_cons_of_mem _ hw, good_of_word (List.mem_filter.mp hw).2⟩
/-- the links between nest mates, and the array of nodes: no words that stay by themselves -/
def yy_N (U : State) : Prop := va_Nw (.methodLinkNest RX0 44 yX4_isIn "PackExchange") U ∧ va_Nw (.methodLinkNest RX0 56 yX4_isChosen "PackExchange") U ∧ va_Nw (.methodLinkNest RX2 44 yX4_isIn "PackExchange") U ∧ va_Nw (.methodLinkNest RX3 42 yX4_isIn "PackExchange") U ∧ va_Nw (.methodLinkNest RX1 40 yX4_isIn "PackExchange") U ∧ va_Nw (.methodLinkNest RX4 9 yX2_init "PackExchange") U ∧ va_Nw (.methodLinkNest RX4 25 yX3_init "PackExchange") U ∧ va_Nw (.methodLinkNest RX4 32 yX1_init "PackExchange") U ∧ va_AO "PackExchange$Node" U
theorem yy_N.warm {s U : State} (hW : s.WarmedH U.vm) (h : yy_N s) : yy_N U := by
  obtain ⟨h0, h1, h2, h3, h4, h5, h6, h7, h8⟩ := h
  exact ⟨va_Nw.warmM hW h0, va_Nw.warmM hW h1, va_Nw.warmM hW h2, va_Nw.warmM hW h3, va_Nw.warmM hW h4, va_Nw.warmM hW h5, va_Nw.warmM hW h6, va_Nw.warmM hW h7, va_AO.moved hW.alike h8⟩
theorem yy_N.same {s U : State} (e : s.vm = U.vm) (h : yy_N s) : yy_N U := by
  obtain ⟨h0, h1, h2, h3, h4, h5, h6, h7, h8⟩ := h
  exact ⟨va_Nw.same rfl e h0, va_Nw.same rfl e h1, va_Nw.same rfl e h2, va_Nw.same rfl e h3, va_Nw.same rfl e h4, va_Nw.same rfl e h5, va_Nw.same rfl e h6, va_Nw.same rfl e h7, va_AO.moved (e ▸ Vm.Alike.refl s.vm) h8⟩
/-! a contract without new cells: the answer o, the world w1 behind it -/
def yy_Q (A : Nat → Prop) (D : va_G) (cl : List vw_C) (tys : List (ClassId × FieldType)) (w1 : va_W) (o : Option Value) : Array Value → State → Outcome → State → Prop :=
  fun _ st oc t => (oc = .returned o ∧ va_P D cl w1 t.heap ∧ va_K D cl tys t) ∧ va_F A st t
def yy_Pre (D : va_G) (cl : List vw_C) (tys : List (ClassId × FieldType)) (w0 : va_W) (sz : Nat) (U : State) : Prop :=
  U.heap.size = sz ∧ va_P D cl w0 U.heap ∧ va_K D cl tys U ∧ va_D (fun _ => True) w0 ∧ yy_N U
def yy_Met (l : Launch) (y : MethodName) (ws : List Cond) (rm : Room) (D : va_G) (cl : List vw_C) (tys : List (ClassId × FieldType)) (av : List Value) (w0 : va_W) (o : Option Value) (w1 : va_W) : Prop :=
  ∀ sz : Nat, Met l y ws rm (va_Pc av (yy_Pre D cl tys w0 sz)) (yy_Q (va_A w0 sz) D cl tys w1 o) 0 0 (va_A w0 sz)
def yy_set : List Nat → va_W → va_W → va_W
  | [], _, ws => ws
  | _ :: _, [], ws => ws
  | i :: is, w :: w1, ws => yy_set is w1 (ws.set i w)
theorem yy_set_get : ∀ (is : List Nat) (w1 ws : va_W), is.length = w1.length → ∀ (k : Nat) (q : Nat × va_E), (yy_set is w1 ws)[k]? = some q → (∃ j : Nat, is[j]? = some k ∧ w1[j]? = some q) ∨ (k ∉ is ∧ ws[k]? = some q)
  | [], [], ws, _, k, q, h => Or.inr ⟨by simp, h⟩
  | [], _ :: _, ws, hl, k, q, h => by simp at hl
  | _ :: _, [], ws, hl, k, q, h => by simp at hl
  | i :: is, w :: w1, ws, hl, k, q, h => by
    rcases yy_set_get is w1 (ws.set i w) (by simpa using hl) k q h with ⟨j, h1, h2⟩ | ⟨h1, h2⟩
    · exact Or.inl ⟨j + 1, by simpa using h1, by simpa using h2⟩
    · by_cases hki : k = i
      · subst hki
        have hlt : k < ws.length := by
          have := (List.getElem?_eq_some_iff.mp h2).1
          simpa using this
        rw [List.getElem?_set_self hlt] at h2
        exact Or.inl ⟨0, rfl, h2⟩
      · rw [List.getElem?_set_ne (Ne.symm hki)] at h2
        exact Or.inr ⟨by simp [hki, h1], h2⟩
theorem yy_len {is : List Nat} {ws w0 w1 : va_W} (hC : is.map (fun i => ws[i]?) = w0.map some) (ha : w1.map Prod.fst = w0.map Prod.fst) : is.length = w1.length := by
  have h1 := congrArg List.length hC
  have h2 := congrArg List.length ha
  simp at h1 h2
  omega
theorem yy_at {is : List Nat} {ws w0 : va_W} (hC : is.map (fun i => ws[i]?) = w0.map some) {j k : Nat} (h : is[j]? = some k) : ∃ q0, w0[j]? = some q0 ∧ ws[k]? = some q0 := by
  have h1 : (is.map (fun i => ws[i]?))[j]? = some (ws[k]?) := by rw [List.getElem?_map, h]; rfl
  rw [hC, List.getElem?_map] at h1
  cases hw : w0[j]? with
  | none => rw [hw] at h1; cases h1
  | some q0 => rw [hw] at h1; exact ⟨q0, rfl, (Option.some.inj h1).symm⟩
theorem yy_of {is : List Nat} {ws w0 : va_W} (hC : is.map (fun i => ws[i]?) = w0.map some) {j : Nat} {q : Nat × va_E} (h : w0[j]? = some q) : ∃ i, is[j]? = some i ∧ ws[i]? = some q := by
  have h3 : (is.map (fun i => ws[i]?))[j]? = some (some q) := by rw [hC, List.getElem?_map, h]; rfl
  rw [List.getElem?_map] at h3
  cases hi : is[j]? with
  | none => rw [hi] at h3; cases h3
  | some i => rw [hi] at h3; exact ⟨i, rfl, Option.some.inj h3⟩
theorem yy_set_D {A : Nat → Prop} {is : List Nat} {ws w0 w1 : va_W} (hD : va_D A ws) (hC : is.map (fun i => ws[i]?) = w0.map some) (ha : w1.map Prod.fst = w0.map Prod.fst) : va_D A (yy_set is w1 ws) := by
  have key : ∀ (k : Nat) (q : Nat × va_E), (yy_set is w1 ws)[k]? = some q → ∃ q0, ws[k]? = some q0 ∧ q0.1 = q.1 := by
    intro k q hq
    rcases yy_set_get is w1 ws (yy_len hC ha) k q hq with ⟨j, h1, h2⟩ | ⟨h1, h2⟩
    · obtain ⟨q0, h3, h4⟩ := yy_at hC h1
      refine ⟨q0, h4, ?_⟩
      have h5 : (w1.map Prod.fst)[j]? = some q.1 := by rw [List.getElem?_map, h2]; rfl
      rw [ha, List.getElem?_map, h3] at h5
      exact Option.some.inj h5
    · exact ⟨q, h2, rfl⟩
  refine ⟨fun i j x y hi hj hxy => ?_, fun k q hk => ?_⟩
  · obtain ⟨x0, h1, h2⟩ := key i x hi
    obtain ⟨y0, h3, h4⟩ := key j y hj
    exact hD.1 i j x0 y0 h1 h3 (h2.trans (hxy.trans h4.symm))
  · obtain ⟨q0, h1, h2⟩ := key k q hk
    rw [← h2]
    exact hD.2 k q0 h1
theorem yy_set_P {A : Nat → Prop} {D : va_G} {cl : List vw_C} {is : List Nat} {ws w0 w1 : va_W} {H H1 : Heap} (hP : va_P D cl ws H) (hD : va_D A ws) (hC : is.map (fun i => ws[i]?) = w0.map some) (ha : w1.map Prod.fst = w0.map Prod.fst) (hk : ∀ q : Nat, q < H.size → ¬ va_A w0 H.size q → H1[q]? = H[q]?) (hP1 : va_P D cl w1 H1) : va_P D cl (yy_set is w1 ws) H1 := by
  intro k q hq
  rcases yy_set_get is w1 ws (yy_len hC ha) k q hq with ⟨j, h1, h2⟩ | ⟨h1, h2⟩
  · exact hP1 j q h2
  · refine (hP k q h2).kept (hk q.1 (hP k q h2).lt (fun h => ?_))
    rcases h with ⟨j, e, h⟩ | h
    · obtain ⟨i, h3, h4⟩ := yy_of hC h
      have hij := hD.1 k i q (q.1, e) h2 h4 rfl
      subst hij
      exact h1 (List.mem_of_getElem? h3)
    · have := (hP k q h2).lt
      omega
theorem yy_subP {D : va_G} {cl : List vw_C} {is : List Nat} {ws w0 : va_W} {H : Heap} (hP : va_P D cl ws H) (hC : is.map (fun i => ws[i]?) = w0.map some) : va_P D cl w0 H := by
  intro k q hq
  obtain ⟨i, -, h⟩ := yy_of hC hq
  exact hP i q h
theorem yy_blind {av : List Value} {D : va_G} {cl : List vw_C} {tys : List (ClassId × FieldType)} {w0 : va_W} {sz : Nat} : FrameBlind (va_Pc av (yy_Pre D cl tys w0 sz)) := by
  intro a U g mk q
  obtain ⟨q0, q1, qP, qK, qD, qN⟩ := q
  exact ⟨q0, q1, qP, va_K.moved (u := U) (U := U.calling g mk a) (Vm.Alike.refl U.vm) qK, qD, qN.same rfl⟩
section YC
variable {p : Program} {l : Launch} {e : Env} {R : Room} {s : State} {m : MethodId} {args : Array Value} {below : List Frame} {meth : Method} {c : Code} {H : Heap} {locs : List Loc} {cells slots : Nat} {Q : State → Prop}
variable {cc : ByteArray} {pc : Nat} {ls : Array Slot} {rest st0 : List Value} {D : va_G} {cl : List vw_C} {A : Nat → Prop} {tys : List (ClassId × FieldType)} {H0 : Heap} {w0 w1 w2 wc : va_W} {o : Option Value}
theorem yy_after {av : Array Value} (hr : va_Run p l e R s m args below meth c H locs cells slots 0 0 (F0 m pc ls st0) rest (yy_Q (va_A w0 H.size) D cl tys w1 o av) (va_A w0 H.size)) (hP : va_P D cl wc H) (hD : va_D A wc) (hS : va_S A H0 H locs) (hA : ∀ q : Nat, H0.size ≤ q → A q) (is : List Nat) (hC : is.map (fun i => wc[i]?) = w0.map some) (ha : w1.map Prod.fst = w0.map Prod.fst) (h2 : yy_set is w1 wc = w2)
    (kk : ∀ (H1 : Heap) (locs1 : List Loc), va_P D cl w2 H1 → va_D A w2 → va_S A H0 H1 locs1 → W p l e R s m args below meth c H1 locs1 cells slots Q (F0 m (pc + 3) ls (o.toList ++ rest))) : W p l e R s m args below meth c H locs cells slots Q (F0 m pc ls st0) := by
  subst h2
  intro T hT X
  obtain ⟨v, st₀, t, T', L, h0, X', hL, e1, e2, ⟨⟨hv, hP1, hK1⟩, hz, hk⟩, st⟩ := hr T hT X
  have hvo : v = o := by injection hv
  subst hvo
  rw [h0] at hz hk
  have hF := va_free (wc := w0) hD hS hA is hC
  obtain ⟨t2, a1, b1⟩ := kk T'.heap (locs ++ L) (by rw [e1]; exact yy_set_P hP hD hC ha hk hP1) (yy_set_D hD hC ha)
    ⟨Nat.le_trans hS.1 (by rw [e1]; exact hz), fun q h1 h2 => by rw [e1, hk q (Nat.lt_of_lt_of_le h1 hS.1) (fun z => h2 (hF q z))]; exact hS.2.1 q h1 h2, fun q hq => by
      rcases List.mem_append.mp hq with h | h
      · exact hS.2.2 q h
      · exact hF _ (hL q h)⟩ T' rfl X'
  exact ⟨t2, st t2 a1, b1⟩
variable {y : MethodName} {bytes : ByteArray} {maxL nL n index : Nat} {ret : Option FieldType} {ws : List Cond} {rm : Room} {Ts : List Cond} {own C host : String} {b : Addr} {As : List Value}
theorem yy_pre (hK : va_K D cl tys s) (hN : yy_N s) (hP : va_P D cl wc H) (hD : va_D A wc) (is : List Nat) (hC : is.map (fun i => wc[i]?) = w0.map some) (hnd : va_nd is = true) {av : List Value} : ∀ U : State, U.heap = H → s.WarmedH U.vm → va_Pc av (yy_Pre D cl tys w0 H.size) av.toArray U := by
  intro U hU hW
  exact ⟨rfl, by rw [hU], by rw [hU]; exact yy_subP hP hC, va_K.moved hW.alike hK, (hD.sub is hnd hC).weaken (fun _ _ _ _ => trivial), hN.warm hW⟩
theorem yy_callV (S : CallFix p m c cc nL s args Ts own) (hM : yy_Met l y ws rm D cl tys (.ref b :: As) w0 o w1) (cw : CallW R s args own C index y bytes maxL ret ws rm 0 0 n) (hK : va_K D cl tys s) (hN : yy_N s) (hP : va_P D cl wc H) (hD : va_D A wc) (hS : va_S A H0 H locs) (hA : ∀ q : Nat, H0.size ≤ q → A q) (is : List Nat) (hC : is.map (fun i => wc[i]?) = w0.map some) (hnd : va_nd is = true) (ha : w1.map Prod.fst = w0.map Prod.fst) (h2 : yy_set is w1 wc = w2)
    (q0 : Nat) {ci : Nat} {fs : List Value} {T : u_T} {N : Nat} (he : wc[q0]? = some (b, .inr (ci, fs))) (hc : cl[ci]? = some (C, T, N)) (hn : As.length = n) (hsize : ls.size = nL) (hstack : st0 = As.reverse ++ .ref b :: rest) (hW : (rest.map fun v => v.category).sum ≤ 8) (hdg : decode cc pc = .ok (.invokevirtual index, 3)) (hf : cells ≤ R.cells ∧ slots ≤ R.slots)
    (kk : ∀ (H1 : Heap) (locs1 : List Loc), va_P D cl w2 H1 → va_D A w2 → va_S A H0 H1 locs1 → W p l e R s m args below meth c H1 locs1 cells slots Q (F0 m (pc + 3) ls (o.toList ++ rest))) : W p l e R s m args below meth c H locs cells slots Q (F0 m pc ls st0) :=
  yy_after (va_runV S (hM H.size) cw ⟨yy_blind, va_recv hK hP hc he, yy_pre hK hN hP hD is hC hnd⟩ rfl hn hsize hstack (lv_room hW) hdg hf) hP hD hS hA is hC ha h2 kk
theorem yy_callVN (S : CallFix p m c cc nL s args Ts own) (hM : yy_Met l y ws rm D cl tys (.ref b :: As) w0 o w1) (cw : va_CN R s args own index y host bytes maxL ret ws rm 0 0 n ∧ (Cond.instanceMethod y).before args s = true ∧ (Cond.selects C y y).before args s = true) (hK : va_K D cl tys s) (hN : yy_N s) (hP : va_P D cl wc H) (hD : va_D A wc) (hS : va_S A H0 H locs) (hA : ∀ q : Nat, H0.size ≤ q → A q) (is : List Nat) (hC : is.map (fun i => wc[i]?) = w0.map some) (hnd : va_nd is = true) (ha : w1.map Prod.fst = w0.map Prod.fst) (h2 : yy_set is w1 wc = w2)
    (q0 : Nat) {ci : Nat} {fs : List Value} {T : u_T} {N : Nat} (he : wc[q0]? = some (b, .inr (ci, fs))) (hc : cl[ci]? = some (C, T, N)) (hn : As.length = n) (hsize : ls.size = nL) (hstack : st0 = As.reverse ++ .ref b :: rest) (hW : (rest.map fun v => v.category).sum ≤ 8) (hdg : decode cc pc = .ok (.invokevirtual index, 3)) (hf : cells ≤ R.cells ∧ slots ≤ R.slots)
    (kk : ∀ (H1 : Heap) (locs1 : List Loc), va_P D cl w2 H1 → va_D A w2 → va_S A H0 H1 locs1 → W p l e R s m args below meth c H1 locs1 cells slots Q (F0 m (pc + 3) ls (o.toList ++ rest))) : W p l e R s m args below meth c H locs cells slots Q (F0 m pc ls st0) :=
  yy_after (va_runVN S (hM H.size) cw ⟨yy_blind, va_recv hK hP hc he, yy_pre hK hN hP hD is hC hnd⟩ rfl hn hsize hstack (lv_room hW) hdg hf) hP hD hS hA is hC ha h2 kk
theorem yy_callS (S : CallFix p m c cc nL s args Ts own) (hM : yy_Met l y ws rm D cl tys As w0 o w1) (cw : CallB R s args own index y bytes maxL ret ws rm 0 0 n ∧ (Cond.static y).before args s = true) (hK : va_K D cl tys s) (hN : yy_N s) (hP : va_P D cl wc H) (hD : va_D A wc) (hS : va_S A H0 H locs) (hA : ∀ q : Nat, H0.size ≤ q → A q) (is : List Nat) (hC : is.map (fun i => wc[i]?) = w0.map some) (hnd : va_nd is = true) (ha : w1.map Prod.fst = w0.map Prod.fst) (h2 : yy_set is w1 wc = w2)
    (hn : As.length = n) (hsize : ls.size = nL) (hstack : st0 = As.reverse ++ rest) (hW : (rest.map fun v => v.category).sum ≤ 8) (hdg : decode cc pc = .ok (.invokestatic index, 3)) (hf : cells ≤ R.cells ∧ slots ≤ R.slots)
    (kk : ∀ (H1 : Heap) (locs1 : List Loc), va_P D cl w2 H1 → va_D A w2 → va_S A H0 H1 locs1 → W p l e R s m args below meth c H1 locs1 cells slots Q (F0 m (pc + 3) ls (o.toList ++ rest))) : W p l e R s m args below meth c H locs cells slots Q (F0 m pc ls st0) :=
  yy_after (va_runS S (hM H.size) cw ⟨yy_blind, yy_pre hK hN hP hD is hC hnd⟩ rfl hn hsize hstack (lv_room hW) hdg hf) hP hD hS hA is hC ha h2 kk
theorem yy_callSN (S : CallFix p m c cc nL s args Ts own) (hM : yy_Met l y ws rm D cl tys As w0 o w1) (cw : va_CN R s args own index y host bytes maxL ret ws rm 0 0 n ∧ (Cond.static y).before args s = true ∧ True) (hK : va_K D cl tys s) (hN : yy_N s) (hP : va_P D cl wc H) (hD : va_D A wc) (hS : va_S A H0 H locs) (hA : ∀ q : Nat, H0.size ≤ q → A q) (is : List Nat) (hC : is.map (fun i => wc[i]?) = w0.map some) (hnd : va_nd is = true) (ha : w1.map Prod.fst = w0.map Prod.fst) (h2 : yy_set is w1 wc = w2)
    (hn : As.length = n) (hsize : ls.size = nL) (hstack : st0 = As.reverse ++ rest) (hW : (rest.map fun v => v.category).sum ≤ 8) (hdg : decode cc pc = .ok (.invokestatic index, 3)) (hf : cells ≤ R.cells ∧ slots ≤ R.slots)
    (kk : ∀ (H1 : Heap) (locs1 : List Loc), va_P D cl w2 H1 → va_D A w2 → va_S A H0 H1 locs1 → W p l e R s m args below meth c H1 locs1 cells slots Q (F0 m (pc + 3) ls (o.toList ++ rest))) : W p l e R s m args below meth c H locs cells slots Q (F0 m pc ls st0) :=
  yy_after (va_runSN S (hM H.size) cw ⟨yy_blind, yy_pre hK hN hP hD is hC hnd⟩ rfl hn hsize hstack (lv_room hW) hdg hf) hP hD hS hA is hC ha h2 kk
theorem yy_iret {v : Int32} (hexec : p.tables.exec = Jvm.exec) (hb : c.code = cc) (hr : meth.sig.returnType = some .int) (hP : va_P D cl w1 H) (hK : va_K D cl tys s) (hS : va_S A s.heap H locs) (hlocks : meth.locks = false) (hdg : decode cc pc = .ok (.ireturn, 1)) : W p l e R s m args below meth c H locs cells slots (MQ below (yy_Q A D cl tys w1 (some (.int v))) args s cells slots A) (F0 m pc ls [.int v]) :=
  W.iret hexec hb hr (fun t ht hW => ⟨⟨rfl, by rw [ht]; exact hP, va_K.moved hW.alike hK⟩, hS.F ht⟩) hS.2.2 hdg hlocks
theorem yy_zret {v : Int32} (hexec : p.tables.exec = Jvm.exec) (hb : c.code = cc) (hr : meth.sig.returnType = some .boolean) (hn : narrow .boolean (.int v) = .int v) (hP : va_P D cl w1 H) (hK : va_K D cl tys s) (hS : va_S A s.heap H locs) (hlocks : meth.locks = false) (hdg : decode cc pc = .ok (.ireturn, 1)) : W p l e R s m args below meth c H locs cells slots (MQ below (yy_Q A D cl tys w1 (some (.int v))) args s cells slots A) (F0 m pc ls [.int v]) :=
  W.zret hexec hb hr hn (fun t ht hW => ⟨⟨rfl, by rw [ht]; exact hP, va_K.moved hW.alike hK⟩, hS.F ht⟩) hS.2.2 hdg hlocks
theorem yy_lret {v : Int64} (hexec : p.tables.exec = Jvm.exec) (hb : c.code = cc) (hr : meth.sig.returnType = some .long) (hP : va_P D cl w1 H) (hK : va_K D cl tys s) (hS : va_S A s.heap H locs) (hlocks : meth.locks = false) (hdg : decode cc pc = .ok (.lreturn, 1)) : W p l e R s m args below meth c H locs cells slots (MQ below (yy_Q A D cl tys w1 (some (.long v))) args s cells slots A) (F0 m pc ls [.long v]) :=
  W.lret hexec hb hr (fun t ht hW => ⟨⟨rfl, by rw [ht]; exact hP, va_K.moved hW.alike hK⟩, hS.F ht⟩) hS.2.2 hdg hlocks
theorem yy_vret (hexec : p.tables.exec = Jvm.exec) (hb : c.code = cc) (hr : meth.sig.returnType = none) (hP : va_P D cl w1 H) (hK : va_K D cl tys s) (hS : va_S A s.heap H locs) (hlocks : meth.locks = false) (hdg : decode cc pc = .ok (.return_, 1)) : W p l e R s m args below meth c H locs cells slots (MQ below (yy_Q A D cl tys w1 none) args s cells slots A) (F0 m pc ls []) :=
  W.vret hexec hb hr (fun t ht hW => ⟨⟨rfl, by rw [ht]; exact hP, va_K.moved hW.alike hK⟩, hS.F ht⟩) hS.2.2 hdg hlocks
end YC
/-! constructors: new cells, at addresses ad -/
def yy_QN (A : Nat → Prop) (D : va_G) (cl : List vw_C) (tys : List (ClassId × FieldType)) (ok : (Nat → Nat) → Prop) (w1 : (Nat → Nat) → va_W) : Array Value → State → Outcome → State → Prop :=
  fun _ st oc t => (∃ ad : Nat → Nat, ok ad ∧ oc = .returned none ∧ va_P D cl (w1 ad) t.heap ∧ va_K D cl tys t ∧ va_D A (w1 ad)) ∧ va_F A st t
def yy_New (l : Launch) (y : MethodName) (ws : List Cond) (rm : Room) (D : va_G) (cl : List vw_C) (tys : List (ClassId × FieldType)) (av : List Value) (w0 : va_W) (ok : (Nat → Nat) → Prop) (w1 : (Nat → Nat) → va_W) (mc ms : Nat) : Prop :=
  ∀ sz : Nat, Met l y ws rm (va_Pc av (yy_Pre D cl tys w0 sz)) (yy_QN (va_A w0 sz) D cl tys ok w1) mc ms (va_A w0 sz)
theorem yy_RA {U : State} {c1 c2 : ClassId} {ty : FieldType} (h1 : va_RA U c1 ty) (h2 : va_RA U c2 ty) : c1 = c2 := by
  cases ty with
  | object C =>
    obtain ⟨_, _, _, _, _, h1⟩ := h1
    obtain ⟨_, _, _, _, _, h2⟩ := h2
    exact Option.some.inj (h1.symm.trans h2)
  | _ => exact Option.some.inj ((show U.vm.findClass _ = some c1 from h1).symm.trans h2)
section YN
variable {p : Program} {l : Launch} {e : Env} {R : Room} {s : State} {m : MethodId} {args : Array Value} {below : List Frame} {meth : Method} {c : Code} {H : Heap} {locs : List Loc} {cells slots : Nat} {Q : State → Prop}
variable {cc : ByteArray} {pc : Nat} {ls : Array Slot} {rest st0 : List Value} {D : va_G} {cl : List vw_C} {A : Nat → Prop} {a : Nat} {tys : List (ClassId × FieldType)} {ws : va_W} {H0 : Heap}
theorem yy_newa (hexec : p.tables.exec = Jvm.exec) (hb : c.code = cc) {atype : ArrayType} (harr : (Cond.arrayClass (newarray.typeOf atype)).before args s = true) {ty : FieldType} (hty : newarray.typeOf atype = ty) (hK : va_K D cl tys s) {t0 : Nat} {cI : ClassId} (ht : tys[t0]? = some (cI, ty)) (hP : va_P D cl ws H) (hD : va_D A ws) (hS : va_S A H0 H locs) (hA : ∀ q : Nat, H0.size ≤ q → A q)
    {n : Int32} {N' : Nat} {a0 : vp_A} (ha : ∀ cA : ClassId, vp_cell cA a0 = arrV cA N' (fun _ => defaultValue ty)) (hn : ¬ n < 0) (hN : n.toNatClampNeg = N') (hbytes : N' * componentBytes ty ≤ 536870912) (hcells : cells + 1 ≤ R.cells) (hslots : slots + N' ≤ R.slots) (hdg : decode cc pc = .ok (.newarray atype, 2))
    (kk : ∀ (q : Nat) (H1 : Heap), va_P D cl (ws ++ [(q, .inl (cI, a0))]) H1 → va_D A (ws ++ [(q, .inl (cI, a0))]) → va_S A H0 H1 locs → W p l e R s m args below meth c H1 locs (cells + 1) (slots + N') Q (F0 m (pc + 2) ls (.ref q :: rest))) : W p l e R s m args below meth c H locs cells slots Q (F0 m pc ls (.int n :: rest)) := by
  refine va_newa hexec hb harr hty hK hP hD hS hA ha hn hN hbytes hcells hslots hdg (fun q cA H1 hK1 hP1 hD1 hS1 => ?_)
  have e1 : cA = cI := yy_RA (hK1.2 tys.length (cA, ty) (by simp)).2 (hK.2 t0 (cI, ty) ht).2
  rw [e1] at hP1 hD1
  exact kk q H1 hP1 hD1 hS1
theorem yy_newq (hexec : p.tables.exec = Jvm.exec) (hb : c.code = cc) {own C : String} {index : Nat} (hown : s.vm.findClass own = some m.cls) (hclink : (Cond.classLink own index C).before args s = true) (hover : va_AO C s) (hK : va_K D cl tys s) {t0 : Nat} {cN : ClassId} (ht : tys[t0]? = some (cN, .object C)) (hP : va_P D cl ws H) (hD : va_D A ws) (hS : va_S A H0 H locs) (hA : ∀ q : Nat, H0.size ≤ q → A q)
    {n : Int32} {N' : Nat} (hn : ¬ n < 0) (hN : n.toNatClampNeg = N') (hbytes : N' * 4 ≤ 536870912) (hcells : cells + 1 ≤ R.cells) (hslots : slots + N' ≤ R.slots) (hdg : decode cc pc = .ok (.anewarray index, 3))
    (kk : ∀ (q : Nat) (H1 : Heap), va_P D cl (ws ++ [(q, .inl (cN, N', .inr (.inr (.inr (.inr (fun _ => none))))))]) H1 → va_D A (ws ++ [(q, .inl (cN, N', .inr (.inr (.inr (.inr (fun _ => none))))))]) → va_S A H0 H1 locs → W p l e R s m args below meth c H1 locs (cells + 1) (slots + N') Q (F0 m (pc + 3) ls (.ref q :: rest))) : W p l e R s m args below meth c H locs cells slots Q (F0 m pc ls (.int n :: rest)) := by
  refine va_newq hexec hb hown hclink hover hK hP hD hS hA hn hN hbytes hcells hslots hdg (fun q cA H1 hK1 hP1 hD1 hS1 => ?_)
  have e1 : cA = cN := yy_RA (hK1.2 tys.length (cA, .object C) (by simp)).2 (hK.2 t0 (cN, .object C) ht).2
  rw [e1] at hP1 hD1
  exact kk q H1 hP1 hD1 hS1
theorem yr_astq (hexec : p.tables.exec = Jvm.exec) (hb : c.code = cc) (hK : va_K D cl tys s) (hP : va_P D cl ws H) (hD : va_D A ws) (hS : va_S A H0 H locs) (q0 t0 qk ci : Nat) {cA : ClassId} {r : vw_C} {n v j : Nat} {vs : List Value} {f : Nat → Option Nat} (ha : ws[q0]? = some (a, .inl (cA, n, .inr (.inr (.inr (.inr f)))))) (ht : tys[t0]? = some (cA, .object r.1)) (hv : ws[qk]? = some (v, .inr (ci, vs))) (hc : cl[ci]? = some r) {i : Int32} (hi : i = nI j) (hj : j < n) (hn : n < 2 ^ 31) (hdg : decode cc pc = .ok (.aastore, 1))
    (kk : ∀ (H1 : Heap) (locs1 : List Loc), va_P D cl (ws.set q0 (a, .inl (cA, n, .inr (.inr (.inr (.inr (va_up f j (some v)))))))) H1 → va_D A (ws.set q0 (a, .inl (cA, n, .inr (.inr (.inr (.inr (va_up f j (some v)))))))) → va_S A H0 H1 locs1 → W p l e R s m args below meth c H1 locs1 cells slots Q (F0 m (pc + 1) ls rest)) : W p l e R s m args below meth c H locs cells slots Q (F0 m pc ls (.ref v :: .int i :: .ref a :: rest)) := by
  subst hi
  have hcl : (nI j).toNatClampNeg = j := nI_clamp (by omega)
  refine va_astq hexec hb hK hP hD hS q0 t0 qk ci ha ht hv hc (vp_in_nI hj hn) hdg ?_
  rw [hcl]
  exact kk
variable {w0 wr wc : va_W} {ok : (Nat → Nat) → Prop} {w1 : (Nat → Nat) → va_W} {mc ms : Nat}
theorem yy_afterN {av : Array Value} (hr : va_Run p l e R s m args below meth c H locs cells slots mc ms (F0 m pc ls st0) rest (yy_QN (va_A w0 H.size) D cl tys ok w1 av) (va_A w0 H.size)) (hP : va_P D cl wc H) (hD : va_D A wc) (hS : va_S A H0 H locs) (hA : ∀ q : Nat, H0.size ≤ q → A q) (isC isR : List Nat) (hC : isC.map (fun i => wc[i]?) = w0.map some) (hR : isR.map (fun i => wc[i]?) = wr.map some) (hn : va_nd isR = true) (hdis : ∀ i ∈ isR, i ∉ isC)
    (kk : ∀ (ad : Nat → Nat) (H1 : Heap) (locs1 : List Loc), ok ad → va_P D cl (wr ++ w1 ad) H1 → va_D A (wr ++ w1 ad) → va_S A H0 H1 locs1 → W p l e R s m args below meth c H1 locs1 (cells + mc) (slots + ms) Q (F0 m (pc + 3) ls rest)) : W p l e R s m args below meth c H locs cells slots Q (F0 m pc ls st0) := by
  intro T hT X
  obtain ⟨v, st₀, t, T', L, h0, X', hL, e1, e2, ⟨⟨ad, hok, hv, hP1, hK1, hD1⟩, hz, hk⟩, st⟩ := hr T hT X
  have hvo : v = none := by injection hv
  subst hvo
  rw [h0] at hz hk
  have hF := va_free (wc := w0) hD hS hA isC hC
  obtain ⟨hP2, hD2⟩ := va_join (wr := wr) (w1 := w1 ad) hP hD isC isR hC hR hn hdis hk hF hP1 hD1
  obtain ⟨t2, a1, b1⟩ := kk ad T'.heap (locs ++ L) hok (by rw [e1]; exact hP2) hD2
    ⟨Nat.le_trans hS.1 (by rw [e1]; exact hz), fun q h1 h2 => by rw [e1, hk q (Nat.lt_of_lt_of_le h1 hS.1) (fun z => h2 (hF q z))]; exact hS.2.1 q h1 h2, fun q hq => by
      rcases List.mem_append.mp hq with h | h
      · exact hS.2.2 q h
      · exact hF _ (hL q h)⟩ T' rfl X'
  exact ⟨t2, st t2 a1, b1⟩
variable {y : MethodName} {bytes : ByteArray} {maxL nL n index : Nat} {wl : List Cond} {rm : Room} {Ts : List Cond} {own host : String} {b : Addr} {As : List Value}
theorem yy_callI (S : CallFix p m c cc nL s args Ts own) (hM : yy_New l y wl rm D cl tys (.ref b :: As) w0 ok w1 mc ms) (cw : CallB R s args own index y bytes maxL none wl rm mc ms n ∧ y.name = "<init>" ∧ (Cond.instanceMethod y).before args s = true) (hK : va_K D cl tys s) (hN : yy_N s) (hP : va_P D cl wc H) (hD : va_D A wc) (hS : va_S A H0 H locs) (hA : ∀ q : Nat, H0.size ≤ q → A q) (isC isR : List Nat) (hC : isC.map (fun i => wc[i]?) = w0.map some) (hnd : va_nd isC = true) (hR : isR.map (fun i => wc[i]?) = wr.map some) (hndR : va_nd isR = true) (hdis : ∀ i ∈ isR, i ∉ isC)
    (hn : As.length = n) (hsize : ls.size = nL) (hstack : st0 = As.reverse ++ .ref b :: rest) (hW : (rest.map fun v => v.category).sum ≤ 8) (hdg : decode cc pc = .ok (.invokespecial index, 3)) (hf : cells + mc ≤ R.cells ∧ slots + ms ≤ R.slots)
    (kk : ∀ (ad : Nat → Nat) (H1 : Heap) (locs1 : List Loc), ok ad → va_P D cl (wr ++ w1 ad) H1 → va_D A (wr ++ w1 ad) → va_S A H0 H1 locs1 → W p l e R s m args below meth c H1 locs1 (cells + mc) (slots + ms) Q (F0 m (pc + 3) ls rest)) : W p l e R s m args below meth c H locs cells slots Q (F0 m pc ls st0) :=
  yy_afterN (va_runI S (hM H.size) cw ⟨yy_blind, yy_pre hK hN hP hD isC hC hnd⟩ rfl hn hsize hstack (lv_room hW) hdg hf) hP hD hS hA isC isR hC hR hndR hdis kk
theorem yy_callIN (S : CallFix p m c cc nL s args Ts own) (hM : yy_New l y wl rm D cl tys (.ref b :: As) w0 ok w1 mc ms) (cw : va_CN R s args own index y host bytes maxL none wl rm mc ms n ∧ y.name = "<init>" ∧ (Cond.instanceMethod y).before args s = true) (hK : va_K D cl tys s) (hN : yy_N s) (hP : va_P D cl wc H) (hD : va_D A wc) (hS : va_S A H0 H locs) (hA : ∀ q : Nat, H0.size ≤ q → A q) (isC isR : List Nat) (hC : isC.map (fun i => wc[i]?) = w0.map some) (hnd : va_nd isC = true) (hR : isR.map (fun i => wc[i]?) = wr.map some) (hndR : va_nd isR = true) (hdis : ∀ i ∈ isR, i ∉ isC)
    (hn : As.length = n) (hsize : ls.size = nL) (hstack : st0 = As.reverse ++ .ref b :: rest) (hW : (rest.map fun v => v.category).sum ≤ 8) (hdg : decode cc pc = .ok (.invokespecial index, 3)) (hf : cells + mc ≤ R.cells ∧ slots + ms ≤ R.slots)
    (kk : ∀ (ad : Nat → Nat) (H1 : Heap) (locs1 : List Loc), ok ad → va_P D cl (wr ++ w1 ad) H1 → va_D A (wr ++ w1 ad) → va_S A H0 H1 locs1 → W p l e R s m args below meth c H1 locs1 (cells + mc) (slots + ms) Q (F0 m (pc + 3) ls rest)) : W p l e R s m args below meth c H locs cells slots Q (F0 m pc ls st0) :=
  yy_afterN (va_runIN S (hM H.size) cw ⟨yy_blind, yy_pre hK hN hP hD isC hC hnd⟩ rfl hn hsize hstack (lv_room hW) hdg hf) hP hD hS hA isC isR hC hR hndR hdis kk
theorem yy_vretN {ad : Nat → Nat} (hexec : p.tables.exec = Jvm.exec) (hb : c.code = cc) (hr : meth.sig.returnType = none) (hok : ok ad) (hP : va_P D cl (w1 ad) H) (hD : va_D A (w1 ad)) (hK : va_K D cl tys s) (hS : va_S A s.heap H locs) (hlocks : meth.locks = false) (hdg : decode cc pc = .ok (.return_, 1)) : W p l e R s m args below meth c H locs cells slots (MQ below (yy_QN A D cl tys ok w1) args s cells slots A) (F0 m pc ls []) :=
  W.vret hexec hb hr (fun t ht hW => ⟨⟨ad, hok, rfl, by rw [ht]; exact hP, va_K.moved hW.alike hK, hD⟩, hS.F ht⟩) hS.2.2 hdg hlocks
end YN
end
section
abbrev yT (cI cJ cZ cN : ClassId) : List (ClassId × FieldType) := [(cI, .int), (cJ, .long), (cZ, .boolean), (cN, .object "PackExchange$Node")]
abbrev NS : Type := (Nat → Int32) × (Nat → Int32) × Int32 × Bool × Int64 × Bool × Int32
abbrev SS : Type := (Nat → Int32) × (Nat → Int32) × (Nat → Int32) × (Nat → Int32) × (Nat → Int64) × Nat
abbrev TS : Type := Int32 × Int32 × Int32
abbrev PS : Type := (Nat → Int32) × (Nat → Int32) × (Nat → Int32) × Int64 × Nat × Int32
abbrev MO : Type := Nat × (Nat → Int32) × (Nat → Int32) × (Nat → Int32) × (Nat → Int32)
abbrev MN : Type := (Nat → Int64) × (Nat → Int32) × (Nat → Bool) × (Nat → Int32) × (Nat → Nat) × (Nat → Bool) × (Nat → Nat) × (Nat → Int32)
abbrev MW : Type := Nat × (Nat → Nat) × (Nat → Int32)
abbrev MT : Type := Int32 × Int32 × Int32
abbrev MP : Type := Nat × (Nat → Nat) × (Nat → Int32) × (Nat → Int32) × (Nat → Int32)
abbrev ndW (cI : ClassId) (a : Nat → Nat) (nd : NS) : va_W := [(a 0, .inr (0, [.ref (a 1), .ref (a 2), .int nd.2.2.1, .int (yB nd.2.2.2.1), .long nd.2.2.2.2.1, .int (yB nd.2.2.2.2.2.1), .int nd.2.2.2.2.2.2])), (a 1, .inl (cI, 8, .inl nd.1)), (a 2, .inl (cI, 8, .inl nd.2.1))]
abbrev stW (cI cJ : ClassId) (a : Nat → Nat) (so : SS) : va_W := [(a 0, .inr (2, [.ref (a 1), .ref (a 2), .ref (a 3), .ref (a 4), .ref (a 5), .int (nI so.2.2.2.2.2)])), (a 1, .inl (cI, 60, .inl so.1)), (a 2, .inl (cI, 60, .inl so.2.1)), (a 3, .inl (cI, 60, .inl so.2.2.1)), (a 4, .inl (cI, 60, .inl so.2.2.2.1)), (a 5, .inl (cJ, 60, .inr (.inl so.2.2.2.2.1)))]
abbrev tkW (a : Nat → Nat) (tk : TS) : va_W := [(a 0, .inr (3, [.int tk.1, .int tk.2.1, .int tk.2.2]))]
abbrev pkW (cI : ClassId) (a : Nat → Nat) (pk : PS) : va_W := [(a 0, .inr (1, [.ref (a 1), .ref (a 2), .ref (a 3), .long pk.2.2.2.1, .int (nI pk.2.2.2.2.1), .int pk.2.2.2.2.2])), (a 1, .inl (cI, 60, .inl pk.1)), (a 2, .inl (cI, 60, .inl pk.2.1)), (a 3, .inl (cI, 60, .inl pk.2.2.1))]
abbrev mW (cI cJ cZ : ClassId) (a : Nat → Nat) (mo : MO) (mn : MN) (mw : MW) (mt : MT) (v : (Nat → Int32)) (mp : MP) : va_W := [(a 0, .inr (5, [.int (nI mo.1), .ref (a 1), .ref (a 2), .ref (a 3), .ref (a 4), .ref (a 5), .ref (a 6), .ref (a 7), .ref (a 8), .ref (a 9), .ref (a 10), .ref (a 11), .ref (a 12), .int (nI mw.1), .ref (a 13), .ref (a 14), .int mt.1, .int mt.2.1, .int mt.2.2, .ref (a 15), .int (nI mp.1), .ref (a 16), .ref (a 17), .ref (a 18), .ref (a 19)])), (a 1, .inl (cI, 60, .inl mo.2.1)), (a 2, .inl (cI, 60, .inl mo.2.2.1)), (a 3, .inl (cI, 60, .inl mo.2.2.2.1)), (a 4, .inl (cI, 60, .inl mo.2.2.2.2)), (a 5, .inl (cJ, 3, .inr (.inl mn.1))), (a 6, .inl (cI, 24, .inl mn.2.1)), (a 7, .inl (cZ, 3, .inl (fun j => yB (mn.2.2.1 j)))), (a 8, .inl (cI, 3, .inl mn.2.2.2.1)), (a 9, .inl (cI, 3, .inl (fun j => nI (mn.2.2.2.2.1 j % 5)))), (a 10, .inl (cZ, 3, .inl (fun j => yB (mn.2.2.2.2.2.1 j)))), (a 11, .inl (cI, 12, .inl (fun j => nI (mn.2.2.2.2.2.2.1 j % 8)))), (a 12, .inl (cI, 12, .inl mn.2.2.2.2.2.2.2)), (a 13, .inl (cI, 4, .inl (fun j => nI (mw.2.1 j % 8)))), (a 14, .inl (cI, 4, .inl mw.2.2)), (a 15, .inl (cI, 4, .inl v)), (a 16, .inl (cI, 60, .inl (fun j => nI (mp.2.1 j % 60)))), (a 17, .inl (cI, 60, .inl mp.2.2.1)), (a 18, .inl (cI, 60, .inl mp.2.2.2.1)), (a 19, .inl (cI, 60, .inl mp.2.2.2.2))]
abbrev vdW (cI : ClassId) (a : Nat → Nat) (v : Nat → Int32) : va_W := [(a 2, .inl (cI, 4, .inl v))]
abbrev tgW (cI : ClassId) (a : Nat → Nat) (v : Nat → Int32) : va_W := [(a 3, .inl (cI, 8, .inl v))]
def naF (nad : Nat → Nat → Nat) : Nat → Option Nat := va_up (va_up (va_up (fun _ => none) 0 (some (nad 0 0))) 1 (some (nad 1 0))) 2 (some (nad 2 0))
theorem na_at {nad : Nat → Nat → Nat} {k : Nat} (h : k < 3) : naF nad k = some (nad k 0) := by
  rcases (show k = 0 ∨ k = 1 ∨ k = 2 by omega) with rfl | rfl | rfl <;> rfl
abbrev naW (cN : ClassId) (a : Nat → Nat) (nad : Nat → Nat → Nat) : va_W := [(a 1, .inl (cN, 3, .inr (.inr (.inr (.inr (naF nad))))))]
abbrev xcW (xa sa ta pa : Nat → Nat) : va_W := [(xa 0, .inr (4, [.ref (sa 0), .ref (xa 1), .ref (ta 0), .ref (pa 0), .ref (xa 2), .ref (xa 3)]))]
abbrev n3W (cI : ClassId) (nad : Nat → Nat → Nat) (ns : Nat → NS) : va_W := ndW cI (nad 0) (ns 0) ++ ndW cI (nad 1) (ns 1) ++ ndW cI (nad 2) (ns 2)
/-- the two other nodes -/
def n2W (cI : ClassId) (nad : Nat → Nat → Nat) (nk : Nat) (ns : Nat → NS) : va_W := match nk with
  | 0 => ndW cI (nad 1) (ns 1) ++ ndW cI (nad 2) (ns 2)
  | 1 => ndW cI (nad 2) (ns 2) ++ ndW cI (nad 0) (ns 0)
  | _ => ndW cI (nad 0) (ns 0) ++ ndW cI (nad 1) (ns 1)
/-- the node that is neither 0 nor nk -/
def n1W (cI : ClassId) (nad : Nat → Nat → Nat) (nk : Nat) (ns : Nat → NS) : va_W := match nk with
  | 1 => ndW cI (nad 2) (ns 2)
  | _ => ndW cI (nad 1) (ns 1)
section XP
variable {D : va_G} {cl : List vw_C} {A : Nat → Prop} {H : Heap} {cI : ClassId} {nad : Nat → Nat → Nat} {ns : Nat → NS} {nk : Nat} {F : va_W} {s0 s1 : NS}
theorem xW_3 {a b c : va_W} : F ++ (a ++ b ++ c) = ((F ++ a) ++ b) ++ c := by simp only [List.append_assoc]
theorem xW_to1 (h : nk < 3) (hP : va_P D cl (F ++ n3W cI nad ns) H) (hD : va_D A (F ++ n3W cI nad ns)) : va_P D cl ((F ++ ndW cI (nad nk) (ns nk)) ++ n2W cI nad nk ns) H ∧ va_D A ((F ++ ndW cI (nad nk) (ns nk)) ++ n2W cI nad nk ns) := by
  rcases (show nk = 0 ∨ nk = 1 ∨ nk = 2 by omega) with rfl | rfl | rfl
  · have e : F ++ n3W cI nad ns = (F ++ ndW cI (nad 0) (ns 0)) ++ (ndW cI (nad 1) (ns 1) ++ ndW cI (nad 2) (ns 2)) := by simp only [n3W, List.append_assoc]
    rw [e] at hP hD
    exact ⟨hP, hD⟩
  · have e : F ++ n3W cI nad ns = (F ++ ndW cI (nad 0) (ns 0)) ++ (ndW cI (nad 1) (ns 1) ++ ndW cI (nad 2) (ns 2)) := by simp only [n3W, List.append_assoc]
    have e2 : (F ++ (ndW cI (nad 1) (ns 1) ++ ndW cI (nad 2) (ns 2))) ++ ndW cI (nad 0) (ns 0) = (F ++ ndW cI (nad 1) (ns 1)) ++ (ndW cI (nad 2) (ns 2) ++ ndW cI (nad 0) (ns 0)) := by simp only [List.append_assoc]
    rw [e] at hP hD
    have hP := hP.swap
    have hD := hD.swap
    rw [e2] at hP hD
    exact ⟨hP, hD⟩
  · have e : F ++ n3W cI nad ns = (F ++ (ndW cI (nad 0) (ns 0) ++ ndW cI (nad 1) (ns 1))) ++ ndW cI (nad 2) (ns 2) := by simp only [n3W, List.append_assoc]
    rw [e] at hP hD
    exact ⟨hP.swap, hD.swap⟩
theorem xW_of1 (h : nk < 3) (hP : va_P D cl ((F ++ ndW cI (nad nk) s1) ++ n2W cI nad nk ns) H) : va_P D cl (F ++ n3W cI nad (yupF ns nk s1)) H := by
  rcases (show nk = 0 ∨ nk = 1 ∨ nk = 2 by omega) with rfl | rfl | rfl
  · have e : F ++ n3W cI nad (yupF ns 0 s1) = (F ++ ndW cI (nad 0) s1) ++ (ndW cI (nad 1) (ns 1) ++ ndW cI (nad 2) (ns 2)) := by
      rw [show n3W cI nad (yupF ns 0 s1) = ndW cI (nad 0) s1 ++ ndW cI (nad 1) (ns 1) ++ ndW cI (nad 2) (ns 2) from rfl]
      simp only [List.append_assoc]
    rw [e]
    exact hP
  · have e : F ++ n3W cI nad (yupF ns 1 s1) = (F ++ ndW cI (nad 0) (ns 0)) ++ (ndW cI (nad 1) s1 ++ ndW cI (nad 2) (ns 2)) := by
      rw [show n3W cI nad (yupF ns 1 s1) = ndW cI (nad 0) (ns 0) ++ ndW cI (nad 1) s1 ++ ndW cI (nad 2) (ns 2) from rfl]
      simp only [List.append_assoc]
    have e2 : (F ++ (ndW cI (nad 1) s1 ++ ndW cI (nad 2) (ns 2))) ++ ndW cI (nad 0) (ns 0) = (F ++ ndW cI (nad 1) s1) ++ (ndW cI (nad 2) (ns 2) ++ ndW cI (nad 0) (ns 0)) := by simp only [List.append_assoc]
    rw [e]
    refine va_P.swap ?_
    rw [e2]
    exact hP
  · have e : F ++ n3W cI nad (yupF ns 2 s1) = (F ++ (ndW cI (nad 0) (ns 0) ++ ndW cI (nad 1) (ns 1))) ++ ndW cI (nad 2) s1 := by
      rw [show n3W cI nad (yupF ns 2 s1) = ndW cI (nad 0) (ns 0) ++ ndW cI (nad 1) (ns 1) ++ ndW cI (nad 2) s1 from rfl]
      simp only [List.append_assoc]
    rw [e]
    exact hP.swap
theorem yupF_self (f : Nat → NS) (k : Nat) : yupF f k (f k) = f := by
  funext j
  unfold yupF
  split
  · next h => rw [h]
  · rfl
theorem xW_of1_1 (h : nk < 3) (hP : va_P D cl ((F ++ ndW cI (nad nk) s1) ++ n2W cI nad nk ns) H) : va_P D cl (F ++ n3W cI nad (yupF ns nk s1)) H := xW_of1 h hP
theorem xW_of1_0 (h : nk < 3) (hP : va_P D cl ((F ++ ndW cI (nad nk) (ns nk)) ++ n2W cI nad nk ns) H) : va_P D cl (F ++ n3W cI nad ns) H := by
  have h1 := xW_of1 h hP
  rw [yupF_self] at h1
  exact h1
theorem xW_to2 (h : nk < 3) (h0 : nk ≠ 0) (hP : va_P D cl (F ++ n3W cI nad ns) H) (hD : va_D A (F ++ n3W cI nad ns)) : va_P D cl (((F ++ ndW cI (nad 0) (ns 0)) ++ ndW cI (nad nk) (ns nk)) ++ n1W cI nad nk ns) H ∧ va_D A (((F ++ ndW cI (nad 0) (ns 0)) ++ ndW cI (nad nk) (ns nk)) ++ n1W cI nad nk ns) := by
  have e : F ++ n3W cI nad ns = ((F ++ ndW cI (nad 0) (ns 0)) ++ ndW cI (nad 1) (ns 1)) ++ ndW cI (nad 2) (ns 2) := by simp only [n3W, List.append_assoc]
  rw [e] at hP hD
  rcases (show nk = 1 ∨ nk = 2 by omega) with rfl | rfl
  · exact ⟨hP, hD⟩
  · exact ⟨hP.swap, hD.swap⟩
theorem xW_of2 (h : nk < 3) (h0 : nk ≠ 0) (hP : va_P D cl (((F ++ ndW cI (nad 0) s0) ++ ndW cI (nad nk) s1) ++ n1W cI nad nk ns) H) : va_P D cl (F ++ n3W cI nad (yupF (yupF ns 0 s0) nk s1)) H := by
  rcases (show nk = 1 ∨ nk = 2 by omega) with rfl | rfl
  · have e : F ++ n3W cI nad (yupF (yupF ns 0 s0) 1 s1) = ((F ++ ndW cI (nad 0) s0) ++ ndW cI (nad 1) s1) ++ ndW cI (nad 2) (ns 2) := by
      rw [show n3W cI nad (yupF (yupF ns 0 s0) 1 s1) = ndW cI (nad 0) s0 ++ ndW cI (nad 1) s1 ++ ndW cI (nad 2) (ns 2) from rfl]
      simp only [List.append_assoc]
    rw [e]
    exact hP
  · have e : F ++ n3W cI nad (yupF (yupF ns 0 s0) 2 s1) = ((F ++ ndW cI (nad 0) s0) ++ ndW cI (nad 1) (ns 1)) ++ ndW cI (nad 2) s1 := by
      rw [show n3W cI nad (yupF (yupF ns 0 s0) 2 s1) = ndW cI (nad 0) s0 ++ ndW cI (nad 1) (ns 1) ++ ndW cI (nad 2) s1 from rfl]
      simp only [List.append_assoc]
    rw [e]
    exact hP.swap
theorem yupF_ne {f : Nat → NS} {k : Nat} (v : NS) (h : k ≠ 0) : yupF f 0 v k = f k := by
  unfold yupF
  rw [if_neg h]
theorem xW_of2_11 (h : nk < 3) (h0 : nk ≠ 0) (hP : va_P D cl (((F ++ ndW cI (nad 0) s0) ++ ndW cI (nad nk) s1) ++ n1W cI nad nk ns) H) : va_P D cl (F ++ n3W cI nad (yupF (yupF ns 0 s0) nk s1)) H := xW_of2 h h0 hP
theorem xW_of2_01 (h : nk < 3) (h0 : nk ≠ 0) (hP : va_P D cl (((F ++ ndW cI (nad 0) (ns 0)) ++ ndW cI (nad nk) s1) ++ n1W cI nad nk ns) H) : va_P D cl (F ++ n3W cI nad (yupF ns nk s1)) H := by
  have h1 := xW_of2 h h0 hP
  rw [yupF_self] at h1
  exact h1
theorem xW_of2_10 (h : nk < 3) (h0 : nk ≠ 0) (hP : va_P D cl (((F ++ ndW cI (nad 0) s0) ++ ndW cI (nad nk) (ns nk)) ++ n1W cI nad nk ns) H) : va_P D cl (F ++ n3W cI nad (yupF ns 0 s0)) H := by
  have h1 := xW_of2 h h0 hP
  have e : yupF (yupF ns 0 s0) nk (ns nk) = yupF ns 0 s0 := by
    have := yupF_self (yupF ns 0 s0) nk
    rw [yupF_ne s0 h0] at this
    exact this
  rw [e] at h1
  exact h1
theorem xW_of2_00 (h : nk < 3) (h0 : nk ≠ 0) (hP : va_P D cl (((F ++ ndW cI (nad 0) (ns 0)) ++ ndW cI (nad nk) (ns nk)) ++ n1W cI nad nk ns) H) : va_P D cl (F ++ n3W cI nad ns) H := by
  have h1 := xW_of2_01 h h0 hP
  rw [yupF_self] at h1
  exact h1
end XP
abbrev x_W (cI cJ cN : ClassId) (ad : Nat → Nat) (so : SS) (tk : TS) (pk : PS) (vd tg : Nat → Int32) (ns : Nat → NS) : va_W := xcW ad (fun j => ad (4 + j)) (fun j => ad (10 + j)) (fun j => ad (11 + j)) ++ stW cI cJ (fun j => ad (4 + j)) so ++ naW cN ad (fun i j => ad (15 + 3 * i + j)) ++ tkW (fun j => ad (10 + j)) tk ++ pkW cI (fun j => ad (11 + j)) pk ++ vdW cI ad vd ++ tgW cI ad tg ++ n3W cI (fun i j => ad (15 + 3 * i + j)) ns
end
section
def px_isNode (x : Int32) : Bool :=
  (if x < 0 then false else (if 3 ≤ x then false else true))
def px_isClient (x : Int32) : Bool :=
  (yb (px_isNode x) fun r1 => (if r1 = true then (if x = 0 then false else true) else false))
def px_isOwnReference (x : Int32) : Bool :=
  (if x < 0 then false else (if 4 ≤ x then false else true))
def px_isSet (x : Int32) : Bool :=
  (if x < 1 then false else (if 15 < x then false else true))
def px_isIn (objs : Int64) (num : Int32) : Bool :=
  (if num < 0 then false else (if 60 ≤ num then false else (if ((ylushr objs num) &&& 1) = 0 then false else true)))
def px_isChosen (set : Int32) (rf : Int32) : Bool :=
  (if ((yiushr set rf) &&& 1) = 0 then false else true)
def nd_isUp (nd : NS) : Bool :=
  nd.2.2.2.2.2.1
def nd_armWith (n : Int32) (nd : NS) : NS :=
  (nd.1, nd.2.1, nd.2.2.1, nd.2.2.2.1, nd.2.2.2.2.1, nd.2.2.2.2.2.1, n)
def nd_write (nd : NS) : Bool × NS :=
  (if nd.2.2.2.2.2.2 = 0 then (false, (nd.1, nd.2.1, nd.2.2.1, nd.2.2.2.1, nd.2.2.2.2.1, false, (-1))) else (if nd.2.2.2.2.2.2 ≤ 0 then (true, nd) else (true, (nd.1, nd.2.1, nd.2.2.1, nd.2.2.2.1, nd.2.2.2.2.1, nd.2.2.2.2.2.1, (nd.2.2.2.2.2.2 - 1)))))
def nd_heldSet (nd : NS) : Int64 :=
  nd.2.2.2.2.1
def nd_keep (num : Int32) (nd : NS) : NS :=
  (if num < 0 then nd else (if 60 ≤ num then nd else (nd.1, nd.2.1, nd.2.2.1, nd.2.2.2.1, nd.2.2.2.2.1 ||| (ylshl 1 num), nd.2.2.2.2.2.1, nd.2.2.2.2.2.2)))
def jl_bitCount (x : Int64) : Int32 :=
  (yb (x - ((ylushr x 1) &&& 6148914691236517205)) fun v1 => (yb ((v1 &&& 3689348814741910323) + ((ylushr v1 2) &&& 3689348814741910323)) fun v2 => (yb ((v2 + (ylushr v2 4)) &&& 1085102592571150095) fun v3 => (yb (v3 + (ylushr v3 8)) fun v4 => (yb (v4 + (ylushr v4 16)) fun v5 => (yb (v5 + (ylushr v5 32)) fun v6 => (v6.toInt32 &&& 127)))))))
def nd_keepOnly (objs : Int64) (nd : NS) : Int32 × NS :=
  (yb (jl_bitCount nd.2.2.2.2.1) fun r1 => (yb (jl_bitCount (nd.2.2.2.2.1 &&& objs)) fun r2 => ((r1 - r2), (nd.1, nd.2.1, nd.2.2.1, nd.2.2.2.1, nd.2.2.2.2.1 &&& objs, nd.2.2.2.2.2.1, nd.2.2.2.2.2.2))))
def nd_valueOf (rf : Int32) (nd : NS) : Int32 :=
  (if rf < 0 then (-1) else (if 8 ≤ rf then (-1) else (nd.1 rf.toNatClampNeg)))
def nd_writeMissing_L14  : Nat → Nat → Int64 → NS → (Bool × NS)
  | 0, i, mis, nd => (true, nd)
  | k + 1, i, mis, nd => (yb (px_isIn mis (nI i)) fun r1 => (if r1 = true then (yb (nd_write nd) fun r3 => (if r3.1 = true then (yb (nd_keep (nI i) r3.2) fun r5 => (nd_writeMissing_L14 k (i + 1) mis r5)) else (false, r3.2))) else (nd_writeMissing_L14 k (i + 1) mis nd)))
def nd_writeMissing (objs : Int64) (nd : NS) : Bool × NS :=
  (nd_writeMissing_L14 60 0 (objs &&& (nd.2.2.2.2.1 ^^^ (-1))) nd)
def nd_hasValues_L2 (set : Int32) (nd : NS) : Nat → Nat → Bool
  | 0, i => true
  | k + 1, i => (yb (px_isChosen set (nI i)) fun r1 => (if r1 = true then (if (nd.1 i) = (-1) then false else (nd_hasValues_L2 set nd k (i + 1))) else (nd_hasValues_L2 set nd k (i + 1))))
def nd_hasValues (set : Int32) (nd : NS) : Bool :=
  (nd_hasValues_L2 set nd 8 0)
def nd_commitsOf_L5 (set : Int32) (nd : NS) : Nat → Nat → Int64 → Int64
  | 0, i, acc => acc
  | k + 1, i, acc => (yb (px_isChosen set (nI i)) fun r1 => (if r1 = true then (if (nd.1 i) = (-1) then (nd_commitsOf_L5 set nd k (i + 1) acc) else (nd_commitsOf_L5 set nd k (i + 1) (acc ||| (ylshl 1 (nd.1 i))))) else (nd_commitsOf_L5 set nd k (i + 1) acc)))
def nd_commitsOf (set : Int32) (nd : NS) : Int64 :=
  (nd_commitsOf_L5 set nd 8 0 0)
def nd_emptyLog_L11  : Nat → Nat → NS → (Bool × NS)
  | 0, i, nd => (true, (nd.1, nd.2.1, 0, false, nd.2.2.2.2.1, nd.2.2.2.2.2.1, nd.2.2.2.2.2.2))
  | k + 1, i, nd => (nd_emptyLog_L11 k (i + 1) (nd.1, upd nd.2.1 i (-2), nd.2.2.1, nd.2.2.2.1, nd.2.2.2.2.1, nd.2.2.2.2.2.1, nd.2.2.2.2.2.2))
def nd_emptyLog (nd : NS) : Bool × NS :=
  (yb (nd_write nd) fun r1 => (if r1.1 = true then (nd_emptyLog_L11 8 0 r1.2) else (false, r1.2)))
def nd_carryOutLog_L2  : Nat → Nat → NS → (Bool × NS)
  | 0, i, nd => (yb (nd_emptyLog nd) fun r1 => (r1.1, r1.2))
  | k + 1, i, nd => (if (nd.2.1 i) = (-2) then (nd_carryOutLog_L2 k (i + 1) nd) else (yb (nd_write nd) fun r3 => (if r3.1 = true then (nd_carryOutLog_L2 k (i + 1) (upd r3.2.1 i (r3.2.2.1 i), r3.2.2.1, r3.2.2.2.1, r3.2.2.2.2.1, r3.2.2.2.2.2.1, r3.2.2.2.2.2.2.1, r3.2.2.2.2.2.2.2)) else (false, r3.2))))
def nd_carryOutLog (nd : NS) : Bool × NS :=
  (nd_carryOutLog_L2 8 0 nd)
def nd_transact_L2 (tg : (Nat → Int32)) : Nat → Nat → NS → (Bool × NS)
  | 0, i, nd => (if nd.2.2.1 = 0 then (true, nd) else (yb (nd_write nd) fun r2 => (if r2.1 = true then (yb (nd_carryOutLog (r2.2.1, r2.2.2.1, r2.2.2.2.1, true, r2.2.2.2.2.2.1, r2.2.2.2.2.2.2.1, r2.2.2.2.2.2.2.2)) fun r4 => (r4.1, r4.2)) else (false, r2.2))))
  | k + 1, i, nd => (if (tg i) = (-2) then (nd_transact_L2 tg k (i + 1) nd) else (if (tg i) = (nd.1 i) then (nd_transact_L2 tg k (i + 1) nd) else (yb (nd_write nd) fun r8 => (if r8.1 = true then (nd_transact_L2 tg k (i + 1) (r8.2.1, upd r8.2.2.1 i (tg i), (r8.2.2.2.1 + 1), r8.2.2.2.2.1, r8.2.2.2.2.2.1, r8.2.2.2.2.2.2.1, r8.2.2.2.2.2.2.2)) else (false, r8.2)))))
def nd_transact (nd : NS) (tg : (Nat → Int32)) : Bool × NS :=
  (nd_transact_L2 tg 8 0 nd)
def nd_restore (nd : NS) : Int32 × NS :=
  (if nd.2.2.2.1 = true then (yb (nd_carryOutLog nd) fun r10 => (if r10.1 = true then (nd.2.2.1, (r10.2.1, r10.2.2.1, r10.2.2.2.1, r10.2.2.2.2.1, r10.2.2.2.2.2.1, true, r10.2.2.2.2.2.2.2)) else ((-2), r10.2))) else (if nd.2.2.1 = 0 then (0, (nd.1, nd.2.1, nd.2.2.1, nd.2.2.2.1, nd.2.2.2.2.1, true, nd.2.2.2.2.2.2)) else (yb (nd_emptyLog nd) fun r5 => (if r5.1 = true then (0, (r5.2.1, r5.2.2.1, r5.2.2.2.1, r5.2.2.2.2.1, r5.2.2.2.2.2.1, true, r5.2.2.2.2.2.2.2)) else ((-2), r5.2)))))
def st_isFull (so : SS) : Bool :=
  (if (nI so.2.2.2.2.2) < 60 then false else true)
def st_isNumber (num : Int32) (so : SS) : Bool :=
  (if num < 0 then false else (if (nI so.2.2.2.2.2) ≤ num then false else true))
def st_isOfKind (num : Int32) (kd : Int32) (so : SS) : Bool :=
  (yb (st_isNumber num so) fun r1 => (if r1 = true then (if (so.1 num.toNatClampNeg) = kd then true else false) else false))
def st_reachOf (num : Int32) (so : SS) : Int64 :=
  (yb (st_isNumber num so) fun r1 => (if r1 = true then so.2.2.2.2.1 num.toNatClampNeg else 0))
def st_contentOf (num : Int32) (so : SS) : Int32 :=
  (yb (st_isNumber num so) fun r1 => (if r1 = true then (so.2.1 num.toNatClampNeg) else 0))
def st_partsOf (num : Int32) (so : SS) : Int32 :=
  (yb (st_isNumber num so) fun r1 => (if r1 = true then (if (so.1 num.toNatClampNeg) = 0 then 0 else (if (so.2.2.1 num.toNatClampNeg) = (-1) then (if (so.2.2.2.1 num.toNatClampNeg) = (-1) then ((1 + 0) + 0) else ((1 + 0) + 1)) else (if (so.2.2.2.1 num.toNatClampNeg) = (-1) then ((1 + 1) + 0) else ((1 + 1) + 1)))) else 0))
def st_find_L3 (kd : Int32) (f1 : Int32) (f2 : Int32) (f3 : Int32) (so : SS) : Nat → Nat → Int32
  | 0, i => (-1)
  | k + 1, i => (if (so.1 i) = kd then (if (so.2.1 i) = f1 then (if (so.2.2.1 i) = f2 then (if (so.2.2.2.1 i) = f3 then (nI i) else (st_find_L3 kd f1 f2 f3 so k (i + 1))) else (st_find_L3 kd f1 f2 f3 so k (i + 1))) else (st_find_L3 kd f1 f2 f3 so k (i + 1))) else (st_find_L3 kd f1 f2 f3 so k (i + 1)))
def st_find (kd : Int32) (f1 : Int32) (f2 : Int32) (f3 : Int32) (so : SS) : Int32 :=
  (st_find_L3 kd f1 f2 f3 so so.2.2.2.2.2 0)
def st_add (kd : Int32) (f1 : Int32) (f2 : Int32) (f3 : Int32) (so : SS) : Int32 × SS :=
  (yb (st_isFull so) fun r1 => (if r1 = true then ((-1), so) else (if kd = 0 then ((nI so.2.2.2.2.2), (upd so.1 so.2.2.2.2.2 kd, upd so.2.1 so.2.2.2.2.2 f1, upd so.2.2.1 so.2.2.2.2.2 f2, upd so.2.2.2.1 so.2.2.2.2.2 f3, vp_updL so.2.2.2.2.1 so.2.2.2.2.2 (ylshl 1 (nI so.2.2.2.2.2)), so.2.2.2.2.2 + 1)) else (yb (st_reachOf f1 so) fun r4 => (yb (st_reachOf f2 so) fun r5 => (yb (st_reachOf f3 so) fun r6 => ((nI so.2.2.2.2.2), (upd so.1 so.2.2.2.2.2 kd, upd so.2.1 so.2.2.2.2.2 f1, upd so.2.2.1 so.2.2.2.2.2 f2, upd so.2.2.2.1 so.2.2.2.2.2 f3, vp_updL so.2.2.2.2.1 so.2.2.2.2.2 ((((ylshl 1 (nI so.2.2.2.2.2)) ||| r4) ||| r5) ||| r6), so.2.2.2.2.2 + 1))))))))
def st_reachOfAll_L5 (objs : Int64) (so : SS) : Nat → Nat → Int64 → Int64
  | 0, i, acc => acc
  | k + 1, i, acc => (yb (px_isIn objs (nI i)) fun r1 => (if r1 = true then (st_reachOfAll_L5 objs so k (i + 1) (acc ||| (so.2.2.2.2.1 i))) else (st_reachOfAll_L5 objs so k (i + 1) acc)))
def st_reachOfAll (objs : Int64) (so : SS) : Int64 :=
  (st_reachOfAll_L5 objs so so.2.2.2.2.2 0 0)
def st_eachReachesOne_L3 (objs : Int64) (goals : Int64) (so : SS) : Nat → Nat → Bool
  | 0, i => true
  | k + 1, i => (yb (px_isIn objs (nI i)) fun r1 => (if r1 = true then (if ((so.2.2.2.2.1 i) &&& goals) = 0 then false else (st_eachReachesOne_L3 objs goals so k (i + 1))) else (st_eachReachesOne_L3 objs goals so k (i + 1))))
def st_eachReachesOne (objs : Int64) (goals : Int64) (so : SS) : Bool :=
  (st_eachReachesOne_L3 objs goals so so.2.2.2.2.2 0)
def st_allOfKind_L5 (kd : Int32) (so : SS) : Nat → Nat → Int64 → Int64
  | 0, i, acc => acc
  | k + 1, i, acc => (if (so.1 i) = kd then (st_allOfKind_L5 kd so k (i + 1) (acc ||| (ylshl 1 (nI i)))) else (st_allOfKind_L5 kd so k (i + 1) acc))
def st_allOfKind (kd : Int32) (so : SS) : Int64 :=
  (st_allOfKind_L5 kd so so.2.2.2.2.2 0 0)
def tk_highest_L9 (objs : Int64) : Nat → Int64 → Int32 → Int64
  | 0, ch, fo => ch
  | x + 1, ch, fo => (if 3 ≤ fo then ch else (yb (px_isIn objs (nI x)) fun r2 => (if r2 = true then (tk_highest_L9 objs x (ch ||| (ylshl 1 (nI x))) (fo + 1)) else (tk_highest_L9 objs x ch fo))))
def tk_highest (objs : Int64) : Int64 :=
  (tk_highest_L9 objs 60 0 0)
def tk_havesSent (tk : TS) : Int32 :=
  tk.1
def tk_havesAcknowledged (tk : TS) : Int32 :=
  tk.2.1
def tk_roundsHeld (tk : TS) : Int32 :=
  tk.2.2
def tk_run_L17 (wants : Int64) (hbs : Int64) (so : SS) : Nat → Nat → Int64 → Int64 → Int32 → Int32 → (Int64 × TS)
  | 0, i, known, left, sent, ackd => (yb (jl_bitCount known) fun r1 => (known, (sent, r1, (nI i))))
  | k + 1, i, known, left, sent, ackd => (if left = 0 then (yb (jl_bitCount known) fun r3 => (known, (sent, r3, (nI i)))) else (yb (st_eachReachesOne wants known so) fun r4 => (if r4 = true then (yb (jl_bitCount known) fun r6 => (known, (sent, r6, (nI i)))) else (yb (tk_highest left) fun r7 => (yb (jl_bitCount r7) fun r8 => (yb (st_reachOfAll (known ||| (r7 &&& hbs)) so) fun r9 => (tk_run_L17 wants hbs so k (i + 1) (known ||| (r7 &&& hbs)) (left &&& ((r7 ||| r9) ^^^ (-1))) (sent + r8) ackd)))))))
def tk_run (wants : Int64) (cands : Int64) (hbs : Int64) (tk : TS) (so : SS) : Int64 × TS :=
  (tk_run_L17 wants hbs so 60 0 0 cands 0 tk.2.1)
def pk_memberSet (pk : PS) : Int64 :=
  pk.2.2.2.1
def pk_length (pk : PS) : Nat :=
  pk.2.2.2.2.1
def pk_totalWeight (pk : PS) : Int32 :=
  pk.2.2.2.2.2
def pk_isPlace (pl : Int32) (pk : PS) : Bool :=
  (if pl < 0 then false else (if (nI pk.2.2.2.2.1) ≤ pl then false else true))
def pk_objectAt (pl : Int32) (pk : PS) : Int32 :=
  (yb (pk_isPlace pl pk) fun r1 => (if r1 = true then (pk.1 pl.toNatClampNeg) else (-4)))
def pk_baseAt (pl : Int32) (pk : PS) : Int32 :=
  (yb (pk_isPlace pl pk) fun r1 => (if r1 = true then (pk.2.1 pl.toNatClampNeg) else (-4)))
def pk_differingDigits_L9  : Nat → Nat → Int32 → Int32 → Int32
  | 0, i, df, dg => dg
  | k + 1, i, df, dg => (if ((yiushr df (nI (4 * i))) &&& 15) = 0 then (pk_differingDigits_L9 k (i + 1) df dg) else (pk_differingDigits_L9 k (i + 1) df (dg + 1)))
def pk_differingDigits (d1 : Int32) (d2 : Int32) : Int32 :=
  (pk_differingDigits_L9 8 0 (d1 ^^^ d2) 0)
def pk_chooseBase_L20 (pl : Nat) (so : SS) : Nat → Int32 → Int32 → PS → (Int32 × PS)
  | 0, least, content, pk => (least, pk)
  | q + 1, least, content, pk => (if (nI q) < ((nI pl) - 3) then (least, pk) else (yb (st_isOfKind (pk.1 q) 0 so) fun r2 => (if r2 = true then (if 2 ≤ (pk.2.2.1 q) then (pk_chooseBase_L20 pl so q least content pk) else (yb (st_contentOf (pk.1 q) so) fun r5 => (yb (pk_differingDigits content r5) fun r6 => (if least ≤ (2 + r6) then (pk_chooseBase_L20 pl so q least content pk) else (pk_chooseBase_L20 pl so q (2 + r6) content (pk.1, upd pk.2.1 pl (nI q), upd pk.2.2.1 pl ((pk.2.2.1 q) + 1), pk.2.2.2.1, pk.2.2.2.2.1, pk.2.2.2.2.2)))))) else (pk_chooseBase_L20 pl so q least content pk))))
def pk_chooseBase (pl : Nat) (pk : PS) (so : SS) : Int32 × PS :=
  (yb (st_contentOf (pk.1 pl) so) fun r8 => (pk_chooseBase_L20 pl so pl 8 r8 pk))
def pk_placeKind_L3 (kd : Int32) (so : SS) : Nat → PS → PS
  | 0, pk => pk
  | x + 1, pk => (if 60 ≤ (nI pk.2.2.2.2.1) then pk else (yb (px_isIn pk.2.2.2.1 (nI x)) fun r2 => (if r2 = true then (yb (st_isOfKind (nI x) kd so) fun r4 => (if r4 = true then (if kd = 0 then (yb (pk_chooseBase pk.2.2.2.2.1 (upd pk.1 pk.2.2.2.2.1 (nI x), upd pk.2.1 pk.2.2.2.2.1 (-4), upd pk.2.2.1 pk.2.2.2.2.1 0, pk.2.2.2.1, pk.2.2.2.2.1, pk.2.2.2.2.2) so) fun r8 => (pk_placeKind_L3 kd so x (r8.2.1, r8.2.2.1, r8.2.2.2.1, r8.2.2.2.2.1, pk.2.2.2.2.1 + 1, (pk.2.2.2.2.2 + r8.1)))) else (yb (st_partsOf (nI x) so) fun r7 => (pk_placeKind_L3 kd so x (upd pk.1 pk.2.2.2.2.1 (nI x), upd pk.2.1 pk.2.2.2.2.1 (-4), upd pk.2.2.1 pk.2.2.2.2.1 0, pk.2.2.2.1, pk.2.2.2.2.1 + 1, (pk.2.2.2.2.2 + (1 + r7)))))) else (pk_placeKind_L3 kd so x pk))) else (pk_placeKind_L3 kd so x pk))))
def pk_placeKind (kd : Int32) (pk : PS) (so : SS) : PS :=
  (pk_placeKind_L3 kd so 60 pk)
def pk_fill (newm : Int64) (pk : PS) (so : SS) : PS :=
  (yb (pk_placeKind 2 (pk.1, pk.2.1, pk.2.2.1, newm, 0, 0) so) fun r1 => (yb (pk_placeKind 1 r1 so) fun r2 => (yb (pk_placeKind 0 r2 so) fun r3 => r3)))
def px_holdsKind (num : Int32) (kd : Int32) (so : SS) (nd : NS) : Bool :=
  (yb (nd_heldSet nd) fun r1 => (yb (px_isIn r1 num) fun r2 => (if r2 = true then (yb (st_isOfKind num kd so) fun r4 => (if r4 = true then true else false)) else false)))
def px_isEntry (num : Int32) (so : SS) (nd : NS) : Bool :=
  (yb (px_holdsKind num 0 so nd) fun r1 => (if r1 = true then true else (yb (px_holdsKind num 1 so nd) fun r3 => (if r3 = true then true else false))))
def px_isCommitOrAbsent (num : Int32) (so : SS) (nd : NS) : Bool :=
  (if num = (-1) then true else (yb (px_holdsKind num 2 so nd) fun r2 => (if r2 = true then true else false)))
def px_writeObject (kd : Int32) (f1 : Int32) (f2 : Int32) (f3 : Int32) (so : SS) (nd : NS) : Int32 × SS × NS :=
  (yb (st_find kd f1 f2 f3 so) fun r1 => (if r1 = (-1) then (yb (st_isFull so) fun r10 => (if r10 = true then ((-3), so, nd) else (yb (nd_heldSet nd) fun r12 => (yb (px_isIn r12 r1) fun r13 => (if r13 = true then (r1, so, nd) else (yb (nd_write nd) fun r15 => (if r15.1 = true then (yb (st_add kd f1 f2 f3 so) fun r18 => (yb (nd_keep r18.1 r15.2) fun r19 => (r18.1, r18.2, r19))) else ((-2), so, r15.2)))))))) else (yb (nd_heldSet nd) fun r3 => (yb (px_isIn r3 r1) fun r4 => (if r4 = true then (r1, so, nd) else (yb (nd_write nd) fun r6 => (if r6.1 = true then (yb (nd_keep r1 r6.2) fun r9 => (r1, so, r9)) else ((-2), so, r6.2))))))))
def px_clearTargets_L2  : Nat → Nat → (Nat → Int32) → (Nat → Int32)
  | 0, i, tg => tg
  | k + 1, i, tg => (px_clearTargets_L2 k (i + 1) (upd tg i (-2)))
def px_clearTargets (tg : (Nat → Int32)) : (Nat → Int32) :=
  (px_clearTargets_L2 8 0 tg)
def px_aimAtOne (rn : Nat) (vl : Int32) (tg : (Nat → Int32)) : (Nat → Int32) :=
  (yb (px_clearTargets tg) fun r1 => upd r1 rn vl)
def px_aimAtValues_L7 (set : Int32) (sh : Nat) (nd : NS) : Nat → Nat → (Nat → Int32) → (Nat → Int32)
  | 0, i, tg => tg
  | k + 1, i, tg => (yb (px_isChosen set (nI i)) fun r1 => (if r1 = true then (yb (nd_valueOf (nI i) nd) fun r3 => (if r3 = (-1) then (px_aimAtValues_L7 set sh nd k (i + 1) tg) else (yb (nd_valueOf (nI i) nd) fun r5 => (px_aimAtValues_L7 set sh nd k (i + 1) (upd tg (i + sh) r5))))) else (px_aimAtValues_L7 set sh nd k (i + 1) tg)))
def px_aimAtValues (set : Int32) (sh : Nat) (tg : (Nat → Int32)) (nd : NS) : (Nat → Int32) :=
  (yb (px_clearTargets tg) fun r6 => (px_aimAtValues_L7 set sh nd 4 0 r6))
def px_verdictOn (rn : Nat) (so : SS) (nd : NS) (ne : NS) : Int32 :=
  (yb (nd_valueOf (nI (4 + rn)) nd) fun r1 => (yb (nd_valueOf (nI rn) ne) fun r2 => (if r2 = r1 then (if r1 = (-1) then 1 else (yb (nd_valueOf (nI rn) nd) fun r5 => (yb (st_reachOf r5 so) fun r6 => (yb (px_isIn r6 r1) fun r7 => (if r7 = true then 1 else 3))))) else 2)))
def px_judge_L6 (set : Int32) (so : SS) (nd : NS) (ne : NS) : Nat → Nat → Bool → (Nat → Int32) → (Bool × (Nat → Int32))
  | 0, i, good, vd => (good, vd)
  | k + 1, i, good, vd => (yb (px_isChosen set (nI i)) fun r1 => (if r1 = true then (yb (px_verdictOn i so nd ne) fun r6 => (if good = true then (if ((upd vd i r6) i) = 0 then (px_judge_L6 set so nd ne k (i + 1) true (upd vd i r6)) else (if ((upd vd i r6) i) = 1 then (px_judge_L6 set so nd ne k (i + 1) true (upd vd i r6)) else (px_judge_L6 set so nd ne k (i + 1) false (upd vd i r6)))) else (px_judge_L6 set so nd ne k (i + 1) false (upd vd i r6)))) else (if good = true then (if ((upd vd i 0) i) = 0 then (px_judge_L6 set so nd ne k (i + 1) true (upd vd i 0)) else (if ((upd vd i 0) i) = 1 then (px_judge_L6 set so nd ne k (i + 1) true (upd vd i 0)) else (px_judge_L6 set so nd ne k (i + 1) false (upd vd i 0)))) else (px_judge_L6 set so nd ne k (i + 1) false (upd vd i 0)))))
def px_judge (set : Int32) (so : SS) (vd : (Nat → Int32)) (nd : NS) (ne : NS) : Bool × (Nat → Int32) :=
  (px_judge_L6 set so nd ne 4 0 true vd)
def px_carryOutPush (set : Int32) (pk : PS) (tg : (Nat → Int32)) (nd : NS) (ne : NS) : Bool × (Nat → Int32) × NS × NS :=
  (yb (pk_memberSet pk) fun r1 => (yb (nd_writeMissing r1 ne) fun r2 => (if r2.1 = true then (yb (px_aimAtValues set 0 tg nd) fun r4 => (yb (nd_transact r2.2 r4) fun r5 => (if r5.1 = true then (yb (px_aimAtValues set 4 r4 nd) fun r7 => (yb (nd_transact nd r7) fun r8 => (r8.1, r7, r8.2, r5.2))) else (false, r4, nd, r5.2)))) else (false, tg, nd, r2.2))))
def x_blob (node : Int32) (content : Int32) (so : SS) (ns : (Nat → NS)) : Int32 × SS × (Nat → NS) :=
  (yb (px_isNode node) fun r1 => (if r1 = true then (yn node fun nk => (yb (nd_isUp (ns nk)) fun r3 => (if r3 = true then (yb (px_writeObject 0 content (-1) (-1) so (ns nk)) fun r5 => (r5.1, r5.2.1, (yupF ns nk r5.2.2))) else ((-2), so, ns)))) else ((-1), so, ns)))
def x_tree (node : Int32) (f1 : Int32) (f2 : Int32) (so : SS) (ns : (Nat → NS)) : Int32 × SS × (Nat → NS) :=
  (yb (px_isNode node) fun r1 => (if r1 = true then (yn node fun nk => (yb (nd_isUp (ns nk)) fun r3 => (if r3 = true then (yb (px_isEntry f1 so (ns nk)) fun r5 => (if r5 = true then (if f2 = (-1) then (yb (px_writeObject 1 f1 f2 (-1) so (ns nk)) fun r8 => (r8.1, r8.2.1, (yupF ns nk r8.2.2))) else (yb (px_isEntry f2 so (ns nk)) fun r9 => (if r9 = true then (yb (px_writeObject 1 f1 f2 (-1) so (ns nk)) fun r11 => (r11.1, r11.2.1, (yupF ns nk r11.2.2))) else ((-1), so, ns)))) else ((-1), so, ns))) else ((-2), so, ns)))) else ((-1), so, ns)))
def x_commit (node : Int32) (rf : Int32) (tree : Int32) (other : Int32) (so : SS) (tg : (Nat → Int32)) (ns : (Nat → NS)) : Int32 × SS × (Nat → Int32) × (Nat → NS) :=
  (yb (px_isNode node) fun r1 => (if r1 = true then (yb (px_isOwnReference rf) fun r3 => (if r3 = true then (yn node fun nk => (yn rf fun rn => (yb (nd_isUp (ns nk)) fun r5 => (if r5 = true then (yb (nd_valueOf (nI rn) (ns nk)) fun r7 => (yb (px_holdsKind tree 1 so (ns nk)) fun r8 => (if r8 = true then (yb (px_isCommitOrAbsent other so (ns nk)) fun r10 => (if r10 = true then (if other = (-1) then (if r7 = (-1) then (yb (px_writeObject 2 tree other (-1) so (ns nk)) fun r19 => (if 0 ≤ r19.1 then (yb (px_aimAtOne rn r19.1 tg) fun r21 => (yb (nd_transact r19.2.2 r21) fun r22 => (if r22.1 = true then (r19.1, r19.2.1, r21, (yupF ns nk r22.2)) else ((-2), r19.2.1, r21, (yupF ns nk r22.2))))) else (r19.1, r19.2.1, tg, (yupF ns nk r19.2.2)))) else (yb (px_writeObject 2 tree r7 other so (ns nk)) fun r14 => (if 0 ≤ r14.1 then (yb (px_aimAtOne rn r14.1 tg) fun r16 => (yb (nd_transact r14.2.2 r16) fun r17 => (if r17.1 = true then (r14.1, r14.2.1, r16, (yupF ns nk r17.2)) else ((-2), r14.2.1, r16, (yupF ns nk r17.2))))) else (r14.1, r14.2.1, tg, (yupF ns nk r14.2.2))))) else (if other = r7 then ((-1), so, tg, ns) else (if r7 = (-1) then (yb (px_writeObject 2 tree other (-1) so (ns nk)) fun r31 => (if 0 ≤ r31.1 then (yb (px_aimAtOne rn r31.1 tg) fun r33 => (yb (nd_transact r31.2.2 r33) fun r34 => (if r34.1 = true then (r31.1, r31.2.1, r33, (yupF ns nk r34.2)) else ((-2), r31.2.1, r33, (yupF ns nk r34.2))))) else (r31.1, r31.2.1, tg, (yupF ns nk r31.2.2)))) else (yb (px_writeObject 2 tree r7 other so (ns nk)) fun r26 => (if 0 ≤ r26.1 then (yb (px_aimAtOne rn r26.1 tg) fun r28 => (yb (nd_transact r26.2.2 r28) fun r29 => (if r29.1 = true then (r26.1, r26.2.1, r28, (yupF ns nk r29.2)) else ((-2), r26.2.1, r28, (yupF ns nk r29.2))))) else (r26.1, r26.2.1, tg, (yupF ns nk r26.2.2))))))) else ((-1), so, tg, ns))) else ((-1), so, tg, ns)))) else ((-2), so, tg, ns))))) else ((-1), so, tg, ns))) else ((-1), so, tg, ns)))
def x_point (node : Int32) (rf : Int32) (cm : Int32) (so : SS) (tg : (Nat → Int32)) (ns : (Nat → NS)) : Int32 × (Nat → Int32) × (Nat → NS) :=
  (yb (px_isNode node) fun r1 => (if r1 = true then (yb (px_isOwnReference rf) fun r3 => (if r3 = true then (yn node fun nk => (yn rf fun rn => (yb (nd_isUp (ns nk)) fun r5 => (if r5 = true then (yb (px_isCommitOrAbsent cm so (ns nk)) fun r7 => (if r7 = true then (yb (nd_valueOf (nI rn) (ns nk)) fun r9 => (if r9 = cm then (0, tg, ns) else (yb (px_aimAtOne rn cm tg) fun r11 => (yb (nd_transact (ns nk) r11) fun r12 => (if r12.1 = true then (1, r11, (yupF ns nk r12.2)) else ((-2), r11, (yupF ns nk r12.2))))))) else ((-1), tg, ns))) else ((-2), tg, ns))))) else ((-1), tg, ns))) else ((-1), tg, ns)))
def x_fetch (node : Int32) (set : Int32) (so : SS) (tk : TS) (pk : PS) (tg : (Nat → Int32)) (ns : (Nat → NS)) : Int32 × TS × PS × (Nat → Int32) × (Nat → NS) :=
  (yb (px_isClient node) fun r1 => (if r1 = true then (yb (px_isSet set) fun r3 => (if r3 = true then (yn node fun nk => (yb (nd_isUp (ns nk)) fun r5 => (if r5 = true then (yb (nd_isUp (ns 0)) fun r7 => (if r7 = true then (yb (nd_commitsOf set (ns 0)) fun r9 => (yb (nd_heldSet (ns nk)) fun r10 => (yb (nd_commitsOf 255 (ns nk)) fun r11 => (yb (st_reachOfAll r11 so) fun r12 => (yb (st_allOfKind 2 so) fun r13 => (yb (nd_heldSet (ns 0)) fun r14 => (yb (tk_run (r9 &&& (r10 ^^^ (-1))) (r12 &&& r13) r14 tk so) fun r15 => (yb (st_reachOfAll (r9 &&& (r10 ^^^ (-1))) so) fun r16 => (yb (st_reachOfAll r15.1 so) fun r17 => (yb (pk_fill (r16 &&& (r17 ^^^ (-1))) pk so) fun r18 => (yb (pk_memberSet r18) fun r19 => (yb (nd_writeMissing r19 (ns nk)) fun r20 => (if r20.1 = true then (yb (px_aimAtValues set 4 tg (ns 0)) fun r22 => (yb (nd_transact r20.2 r22) fun r23 => (if r23.1 = true then (yb (pk_length r18) fun r25 => ((nI r25), r15.2, r18, r22, (yupF ns nk r23.2))) else ((-2), r15.2, r18, r22, (yupF ns nk r23.2))))) else ((-2), r15.2, r18, tg, (yupF ns nk r20.2))))))))))))))) else ((-2), tk, pk, tg, ns))) else ((-2), tk, pk, tg, ns)))) else ((-1), tk, pk, tg, ns))) else ((-1), tk, pk, tg, ns)))
def x_push (node : Int32) (set : Int32) (so : SS) (pk : PS) (vd : (Nat → Int32)) (tg : (Nat → Int32)) (ns : (Nat → NS)) : Int32 × PS × (Nat → Int32) × (Nat → Int32) × (Nat → NS) :=
  (yb (px_isClient node) fun r1 => (if r1 = true then (yb (px_isSet set) fun r3 => (if r3 = true then (yn node fun nk => (yb (nd_isUp (ns nk)) fun r5 => (if r5 = true then (yb (nd_isUp (ns 0)) fun r7 => (if r7 = true then (yb (nd_hasValues set (ns nk)) fun r9 => (if r9 = true then (yb (px_judge set so vd (ns nk) (ns 0)) fun r11 => (if r11.1 = true then (yb (nd_commitsOf 15 (ns 0)) fun r13 => (yb (nd_heldSet (ns nk)) fun r14 => (yb (nd_commitsOf set (ns nk)) fun r15 => (yb (st_reachOfAll r15 so) fun r16 => (yb (st_reachOfAll (r13 &&& r14) so) fun r17 => (yb (pk_fill (r16 &&& (r17 ^^^ (-1))) pk so) fun r18 => (yb (px_carryOutPush set r18 tg (ns nk) (ns 0)) fun r19 => (if r19.1 = true then (1, r18, r11.2, r19.2.1, (yupF (yupF ns 0 r19.2.2.2) nk r19.2.2.1)) else ((-2), r18, r11.2, r19.2.1, (yupF (yupF ns 0 r19.2.2.2) nk r19.2.2.1)))))))))) else (yb (pk_fill 0 pk so) fun r21 => (0, r21, r11.2, tg, ns)))) else ((-1), pk, vd, tg, ns))) else ((-2), pk, vd, tg, ns))) else ((-2), pk, vd, tg, ns)))) else ((-1), pk, vd, tg, ns))) else ((-1), pk, vd, tg, ns)))
def x_arm (node : Int32) (n : Int32) (ns : (Nat → NS)) : Bool × (Nat → NS) :=
  (yb (px_isNode node) fun r1 => (if r1 = true then (if n < (-1) then (false, ns) else (if n ≤ 100 then (yn node fun nk => (yb (nd_armWith n (ns nk)) fun r5 => (true, (yupF ns nk r5)))) else (false, ns))) else (false, ns)))
def x_recover (node : Int32) (ns : (Nat → NS)) : Int32 × (Nat → NS) :=
  (yb (px_isNode node) fun r1 => (if r1 = true then (yn node fun nk => (yb (nd_isUp (ns nk)) fun r3 => (if r3 = true then ((-1), ns) else (yb (nd_restore (ns nk)) fun r5 => (r5.1, (yupF ns nk r5.2)))))) else ((-1), ns)))
def x_collect (node : Int32) (so : SS) (ns : (Nat → NS)) : Int32 × (Nat → NS) :=
  (yb (px_isNode node) fun r1 => (if r1 = true then (yn node fun nk => (yb (nd_isUp (ns nk)) fun r3 => (if r3 = true then (yb (nd_commitsOf 255 (ns nk)) fun r5 => (yb (st_reachOfAll r5 so) fun r6 => (yb (nd_keepOnly r6 (ns nk)) fun r7 => (r7.1, (yupF ns nk r7.2))))) else ((-2), ns)))) else ((-1), ns)))
def x_up (node : Int32) (ns : (Nat → NS)) : Bool :=
  (yb (px_isNode node) fun r1 => (if r1 = true then (yn node fun nk => (yb (nd_isUp (ns nk)) fun r3 => (if r3 = true then true else false))) else false))
def x_reference (node : Int32) (rf : Int32) (ns : (Nat → NS)) : Int32 :=
  (yb (px_isNode node) fun r1 => (if r1 = true then (if rf < 0 then (-1) else (if rf < 8 then (yn node fun nk => (yb (nd_isUp (ns nk)) fun r5 => (if r5 = true then (yb (nd_valueOf rf (ns nk)) fun r7 => (if r7 = (-1) then (-4) else r7)) else (-2)))) else (-1))) else (-1)))
def x_holds (node : Int32) (num : Int32) (ns : (Nat → NS)) : Int32 :=
  (yb (px_isNode node) fun r1 => (if r1 = true then (yn node fun nk => (yb (nd_isUp (ns nk)) fun r3 => (if r3 = true then (yb (nd_heldSet (ns nk)) fun r5 => (yb (px_isIn r5 num) fun r6 => (if r6 = true then 1 else 0))) else (-2)))) else (-1)))
def x_count (node : Int32) (ns : (Nat → NS)) : Int32 :=
  (yb (px_isNode node) fun r1 => (if r1 = true then (yn node fun nk => (yb (nd_isUp (ns nk)) fun r3 => (if r3 = true then (yb (nd_heldSet (ns nk)) fun r5 => (yb (jl_bitCount r5) fun r6 => r6)) else (-2)))) else (-1)))
def x_talk (w : Int32) (tk : TS) : Int32 :=
  (if w = 0 then (yb (tk_havesSent tk) fun r2 => r2) else (if w = 1 then (yb (tk_havesAcknowledged tk) fun r4 => r4) else (if w = 2 then (yb (tk_roundsHeld tk) fun r6 => r6) else (-1))))
def x_packed (pk : PS) : Nat :=
  (yb (pk_length pk) fun r1 => r1)
def x_packAt (pl : Int32) (pk : PS) : Int32 :=
  (yb (pk_objectAt pl pk) fun r1 => r1)
def x_base (pl : Int32) (pk : PS) : Int32 :=
  (yb (pk_baseAt pl pk) fun r1 => r1)
def x_weight (pk : PS) : Int32 :=
  (yb (pk_totalWeight pk) fun r1 => r1)
def x_verdict (rf : Int32) (vd : (Nat → Int32)) : Int32 :=
  (yb (px_isOwnReference rf) fun r1 => (if r1 = true then (vd rf.toNatClampNeg) else 0))
def md_isNode (x : Int32) : Bool :=
  (if x < 0 then false else (if 2 < x then false else true))
def md_many_L4 (set : Int64) : Nat → Nat → Int32 → Int32
  | 0, i, n => n
  | k + 1, i, n => (md_many_L4 set k (i + 1) (n + (((ylshr set (nI i)) &&& 1).toInt32)))
def md_many (set : Int64) : Int32 :=
  (md_many_L4 set 60 0 0)
def md_has (nk : Nat) (x : Int32) (mo : MO) (mn : MN) : Bool :=
  (if x < 0 then false else (if (nI mo.1) ≤ x then false else (if ((ylshr (mn.1 nk) x) &&& 1) = 1 then true else false)))
def md_reach_L10 (mo : MO) : Nat → Int64 → Int64
  | 0, all => all
  | x + 1, all => (if ((ylshr all (nI x)) &&& 1) = 1 then (if (mo.2.1 x) ≤ 0 then (md_reach_L10 mo x all) else (if (mo.2.2.2.1 x) < 0 then (if (mo.2.2.2.2 x) < 0 then (md_reach_L10 mo x (all ||| (ylshl 1 (mo.2.2.1 x)))) else (md_reach_L10 mo x ((all ||| (ylshl 1 (mo.2.2.1 x))) ||| (ylshl 1 (mo.2.2.2.2 x))))) else (if (mo.2.2.2.2 x) < 0 then (md_reach_L10 mo x ((all ||| (ylshl 1 (mo.2.2.1 x))) ||| (ylshl 1 (mo.2.2.2.1 x)))) else (yb (((all ||| (ylshl 1 (mo.2.2.1 x))) ||| (ylshl 1 (mo.2.2.2.1 x))) ||| (ylshl 1 (mo.2.2.2.2 x))) fun v6 => (md_reach_L10 mo x v6))))) else (md_reach_L10 mo x all))
def md_reach (set : Int64) (mo : MO) : Int64 :=
  (md_reach_L10 mo mo.1 set)
def md_tips_L6 (nk : Nat) (mn : MN) : Nat → Nat → Int64 → Int64
  | 0, i, acc => acc
  | k + 1, i, acc => (if (mn.2.1 ((8 * nk) + i)) ≤ 0 then (md_tips_L6 nk mn k (i + 1) acc) else (md_tips_L6 nk mn k (i + 1) (acc ||| (ylshl 1 ((mn.2.1 ((8 * nk) + i)) - 1)))))
def md_tips (nk : Nat) (fr : Nat) (tt : Nat) (mn : MN) : Int64 :=
  (md_tips_L6 nk mn ((tt + 1) - fr) fr 0)
def md_write (nk : Nat) (mn : MN) : Bool × MN :=
  (if (mn.2.2.2.1 nk) = 1 then (false, (mn.1, mn.2.1, yupB mn.2.2.1 nk true, upd mn.2.2.2.1 nk 0, mn.2.2.2.2.1, mn.2.2.2.2.2.1, mn.2.2.2.2.2.2.1, mn.2.2.2.2.2.2.2)) else (if (mn.2.2.2.1 nk) ≤ 0 then (true, (mn.1, mn.2.1, mn.2.2.1, upd mn.2.2.2.1 nk 0, mn.2.2.2.2.1, mn.2.2.2.2.2.1, mn.2.2.2.2.2.2.1, mn.2.2.2.2.2.2.2)) else (true, (mn.1, mn.2.1, mn.2.2.1, upd mn.2.2.2.1 nk ((mn.2.2.2.1 nk) - 1), mn.2.2.2.2.1, mn.2.2.2.2.2.1, mn.2.2.2.2.2.2.1, mn.2.2.2.2.2.2.2))))
def md_store_L3 (nk : Nat) (set : Int64) (mo : MO) : Nat → Nat → MN → (Bool × MN)
  | 0, i, mn => (true, mn)
  | k + 1, i, mn => (if ((ylshr set (nI i)) &&& 1) = 1 then (yb (md_has nk (nI i) mo mn) fun r2 => (if r2 = true then (md_store_L3 nk set mo k (i + 1) mn) else (yb (md_write nk mn) fun r4 => (if r4.1 = true then (md_store_L3 nk set mo k (i + 1) (vp_updL r4.2.1 nk ((r4.2.1 nk) ||| (ylshl 1 (nI i))), r4.2.2.1, r4.2.2.2.1, r4.2.2.2.2.1, r4.2.2.2.2.2.1, r4.2.2.2.2.2.2.1, r4.2.2.2.2.2.2.2.1, r4.2.2.2.2.2.2.2.2)) else (false, r4.2))))) else (md_store_L3 nk set mo k (i + 1) mn))
def md_store (nk : Nat) (set : Int64) (mo : MO) (mn : MN) : Bool × MN :=
  (md_store_L3 nk set mo mo.1 0 mn)
def md_wish (r : Nat) (vl : Int32) (mw : MW) : MW :=
  (mw.1 + 1, yupN mw.2.1 mw.1 r, upd mw.2.2 mw.1 vl)
def md_wipe (nk : Nat) (mn : MN) : Bool × MN :=
  (yb (md_write nk mn) fun r1 => (if r1.1 = true then (true, (r1.2.1, r1.2.2.1, r1.2.2.2.1, r1.2.2.2.2.1, yupN r1.2.2.2.2.2.1 nk 0, yupB r1.2.2.2.2.2.2.1 nk false, r1.2.2.2.2.2.2.2.1, r1.2.2.2.2.2.2.2.2)) else (false, r1.2)))
def md_replay_L2 (nk : Nat) : Nat → Nat → MN → (Bool × MN)
  | 0, i, mn => (yb (md_wipe nk mn) fun r1 => (r1.1, r1.2))
  | k + 1, i, mn => (yb (md_write nk mn) fun r2 => (if r2.1 = true then (md_replay_L2 nk k (i + 1) (r2.2.1, upd r2.2.2.1 ((8 * nk) + (r2.2.2.2.2.2.2.2.1 ((4 * nk) + i) % 8)) (r2.2.2.2.2.2.2.2.2 ((4 * nk) + i)), r2.2.2.2.1, r2.2.2.2.2.1, r2.2.2.2.2.2.1, r2.2.2.2.2.2.2.1, r2.2.2.2.2.2.2.2.1, r2.2.2.2.2.2.2.2.2)) else (false, r2.2)))
def md_replay (nk : Nat) (mn : MN) : Bool × MN :=
  (md_replay_L2 nk (mn.2.2.2.2.1 nk % 5) 0 mn)
def md_transact_L4 (nk : Nat) (mw : MW) : Nat → Nat → Nat → MN → (Bool × MN)
  | 0, i, mm, mn => (if (nI mm) = 0 then (true, mn) else (yb (md_write nk mn) fun r2 => (if r2.1 = true then (yb (md_replay nk (r2.2.1, r2.2.2.1, r2.2.2.2.1, r2.2.2.2.2.1, r2.2.2.2.2.2.1, yupB r2.2.2.2.2.2.2.1 nk true, r2.2.2.2.2.2.2.2.1, r2.2.2.2.2.2.2.2.2)) fun r4 => (r4.1, r4.2)) else (false, r2.2))))
  | k + 1, i, mm, mn => (if (mn.2.1 ((8 * nk) + (mw.2.1 i % 8))) = (mw.2.2 i) then (md_transact_L4 nk mw k (i + 1) mm mn) else (yb (md_write nk mn) fun r6 => (if r6.1 = true then (md_transact_L4 nk mw k (i + 1) (mm + 1) (r6.2.1, r6.2.2.1, r6.2.2.2.1, r6.2.2.2.2.1, yupN r6.2.2.2.2.2.1 nk (mm + 1), r6.2.2.2.2.2.2.1, yupN r6.2.2.2.2.2.2.2.1 ((4 * nk) + mm) (mw.2.1 i % 8), upd r6.2.2.2.2.2.2.2.2 ((4 * nk) + mm) (mw.2.2 i))) else (false, r6.2))))
def md_transact (nk : Nat) (mn : MN) (mw : MW) : Bool × MN :=
  (md_transact_L4 nk mw mw.1 0 0 mn)
def md_make_L3 (nk : Nat) (what : Int32) (f1 : Int32) (f2 : Int32) (f3 : Int32) (mo : MO) (mn : MN) : Nat → Nat → (Int32 × MO × MN)
  | 0, i => (if (nI i) = 60 then ((-3), mo, mn) else (if (nI mo.1) ≤ (nI i) then (yb (md_write nk mn) fun r3 => (if r3.1 = true then (if (nI i) = (nI mo.1) then ((nI i), (mo.1 + 1, upd mo.2.1 i what, upd mo.2.2.1 i f1, upd mo.2.2.2.1 i f2, upd mo.2.2.2.2 i f3), (vp_updL r3.2.1 nk ((r3.2.1 nk) ||| (ylshl 1 (nI i))), r3.2.2.1, r3.2.2.2.1, r3.2.2.2.2.1, r3.2.2.2.2.2.1, r3.2.2.2.2.2.2.1, r3.2.2.2.2.2.2.2.1, r3.2.2.2.2.2.2.2.2)) else ((nI i), mo, (vp_updL r3.2.1 nk ((r3.2.1 nk) ||| (ylshl 1 (nI i))), r3.2.2.1, r3.2.2.2.1, r3.2.2.2.2.1, r3.2.2.2.2.2.1, r3.2.2.2.2.2.2.1, r3.2.2.2.2.2.2.2.1, r3.2.2.2.2.2.2.2.2))) else ((-2), mo, r3.2))) else (yb (md_has nk (nI i) mo mn) fun r6 => (if r6 = true then ((nI i), mo, mn) else (yb (md_write nk mn) fun r8 => (if r8.1 = true then (if (nI i) = (nI mo.1) then ((nI i), (mo.1 + 1, upd mo.2.1 i what, upd mo.2.2.1 i f1, upd mo.2.2.2.1 i f2, upd mo.2.2.2.2 i f3), (vp_updL r8.2.1 nk ((r8.2.1 nk) ||| (ylshl 1 (nI i))), r8.2.2.1, r8.2.2.2.1, r8.2.2.2.2.1, r8.2.2.2.2.2.1, r8.2.2.2.2.2.2.1, r8.2.2.2.2.2.2.2.1, r8.2.2.2.2.2.2.2.2)) else ((nI i), mo, (vp_updL r8.2.1 nk ((r8.2.1 nk) ||| (ylshl 1 (nI i))), r8.2.2.1, r8.2.2.2.1, r8.2.2.2.2.1, r8.2.2.2.2.2.1, r8.2.2.2.2.2.2.1, r8.2.2.2.2.2.2.2.1, r8.2.2.2.2.2.2.2.2))) else ((-2), mo, r8.2)))))))
  | k + 1, i => (if (mo.2.1 i) = what then (if (mo.2.2.1 i) = f1 then (if (mo.2.2.2.1 i) = f2 then (if (mo.2.2.2.2 i) = f3 then (if (nI i) = 60 then ((-3), mo, mn) else (if (nI mo.1) ≤ (nI i) then (yb (md_write nk mn) fun r17 => (if r17.1 = true then (if (nI i) = (nI mo.1) then ((nI i), (mo.1 + 1, upd mo.2.1 i what, upd mo.2.2.1 i f1, upd mo.2.2.2.1 i f2, upd mo.2.2.2.2 i f3), (vp_updL r17.2.1 nk ((r17.2.1 nk) ||| (ylshl 1 (nI i))), r17.2.2.1, r17.2.2.2.1, r17.2.2.2.2.1, r17.2.2.2.2.2.1, r17.2.2.2.2.2.2.1, r17.2.2.2.2.2.2.2.1, r17.2.2.2.2.2.2.2.2)) else ((nI i), mo, (vp_updL r17.2.1 nk ((r17.2.1 nk) ||| (ylshl 1 (nI i))), r17.2.2.1, r17.2.2.2.1, r17.2.2.2.2.1, r17.2.2.2.2.2.1, r17.2.2.2.2.2.2.1, r17.2.2.2.2.2.2.2.1, r17.2.2.2.2.2.2.2.2))) else ((-2), mo, r17.2))) else (yb (md_has nk (nI i) mo mn) fun r20 => (if r20 = true then ((nI i), mo, mn) else (yb (md_write nk mn) fun r22 => (if r22.1 = true then (if (nI i) = (nI mo.1) then ((nI i), (mo.1 + 1, upd mo.2.1 i what, upd mo.2.2.1 i f1, upd mo.2.2.2.1 i f2, upd mo.2.2.2.2 i f3), (vp_updL r22.2.1 nk ((r22.2.1 nk) ||| (ylshl 1 (nI i))), r22.2.2.1, r22.2.2.2.1, r22.2.2.2.2.1, r22.2.2.2.2.2.1, r22.2.2.2.2.2.2.1, r22.2.2.2.2.2.2.2.1, r22.2.2.2.2.2.2.2.2)) else ((nI i), mo, (vp_updL r22.2.1 nk ((r22.2.1 nk) ||| (ylshl 1 (nI i))), r22.2.2.1, r22.2.2.2.1, r22.2.2.2.2.1, r22.2.2.2.2.2.1, r22.2.2.2.2.2.2.1, r22.2.2.2.2.2.2.2.1, r22.2.2.2.2.2.2.2.2))) else ((-2), mo, r22.2))))))) else (md_make_L3 nk what f1 f2 f3 mo mn k (i + 1))) else (md_make_L3 nk what f1 f2 f3 mo mn k (i + 1))) else (md_make_L3 nk what f1 f2 f3 mo mn k (i + 1))) else (md_make_L3 nk what f1 f2 f3 mo mn k (i + 1)))
def md_make (nk : Nat) (what : Int32) (f1 : Int32) (f2 : Int32) (f3 : Int32) (mo : MO) (mn : MN) : Int32 × MO × MN :=
  (md_make_L3 nk what f1 f2 f3 mo mn mo.1 0)
def md_entry (nk : Nat) (x : Int32) (mo : MO) (mn : MN) : Bool :=
  (yb (md_has nk x mo mn) fun r1 => (if r1 = true then (if 2 ≤ (mo.2.1 x.toNatClampNeg) then false else true) else false))
def md_blob (node : Int32) (content : Int32) (mo : MO) (mn : MN) : Int32 × MO × MN :=
  (yb (md_isNode node) fun r1 => (if r1 = true then (yn node fun nk => (if mn.2.2.1 nk = true then ((-2), mo, mn) else (yb (md_make nk 0 content (-1) (-1) mo mn) fun r4 => (r4.1, r4.2.1, r4.2.2)))) else ((-1), mo, mn)))
def md_tree (node : Int32) (f1 : Int32) (f2 : Int32) (mo : MO) (mn : MN) : Int32 × MO × MN :=
  (yb (md_isNode node) fun r1 => (if r1 = true then (yn node fun nk => (if mn.2.2.1 nk = true then ((-2), mo, mn) else (yb (md_entry nk f1 mo mn) fun r4 => (if r4 = true then (if f2 = (-1) then (yb (md_make nk 1 f1 f2 (-1) mo mn) fun r7 => (r7.1, r7.2.1, r7.2.2)) else (yb (md_entry nk f2 mo mn) fun r8 => (if r8 = true then (yb (md_make nk 1 f1 f2 (-1) mo mn) fun r10 => (r10.1, r10.2.1, r10.2.2)) else ((-1), mo, mn)))) else ((-1), mo, mn))))) else ((-1), mo, mn)))
def md_commit (node : Int32) (rf : Int32) (tree : Int32) (other : Int32) (mo : MO) (mn : MN) (mw : MW) : Int32 × MO × MN × MW :=
  (yb (md_isNode node) fun r1 => (if r1 = true then (if rf < 0 then ((-1), mo, mn, mw) else (if rf ≤ 3 then (yn node fun nk => (yn rf fun rn => (if mn.2.2.1 nk = true then ((-2), mo, mn, mw) else (yb (md_has nk tree mo mn) fun r6 => (if r6 = true then (if (mo.2.1 tree.toNatClampNeg) = 1 then (if other = (-1) then (if ((mn.2.1 ((8 * nk) + rn)) - 1) < 0 then (yb (md_make nk 2 tree other (-1) mo mn) fun r12 => (if 0 ≤ r12.1 then (yb (md_wish rn (r12.1 + 1) (0, mw.2.1, mw.2.2)) fun r14 => (yb (md_transact nk r12.2.2 r14) fun r15 => (if r15.1 = true then (r12.1, r12.2.1, r15.2, r14) else ((-2), r12.2.1, r15.2, r14)))) else (r12.1, r12.2.1, r12.2.2, mw))) else (yb (md_make nk 2 tree ((mn.2.1 ((8 * nk) + rn)) - 1) other mo mn) fun r18 => (if 0 ≤ r18.1 then (yb (md_wish rn (r18.1 + 1) (0, mw.2.1, mw.2.2)) fun r20 => (yb (md_transact nk r18.2.2 r20) fun r21 => (if r21.1 = true then (r18.1, r18.2.1, r21.2, r20) else ((-2), r18.2.1, r21.2, r20)))) else (r18.1, r18.2.1, r18.2.2, mw)))) else (yb (md_has nk other mo mn) fun r23 => (if r23 = true then (if (mo.2.1 other.toNatClampNeg) = 2 then (if other = ((mn.2.1 ((8 * nk) + rn)) - 1) then ((-1), mo, mn, mw) else (if ((mn.2.1 ((8 * nk) + rn)) - 1) < 0 then (yb (md_make nk 2 tree other (-1) mo mn) fun r29 => (if 0 ≤ r29.1 then (yb (md_wish rn (r29.1 + 1) (0, mw.2.1, mw.2.2)) fun r31 => (yb (md_transact nk r29.2.2 r31) fun r32 => (if r32.1 = true then (r29.1, r29.2.1, r32.2, r31) else ((-2), r29.2.1, r32.2, r31)))) else (r29.1, r29.2.1, r29.2.2, mw))) else (yb (md_make nk 2 tree ((mn.2.1 ((8 * nk) + rn)) - 1) other mo mn) fun r35 => (if 0 ≤ r35.1 then (yb (md_wish rn (r35.1 + 1) (0, mw.2.1, mw.2.2)) fun r37 => (yb (md_transact nk r35.2.2 r37) fun r38 => (if r38.1 = true then (r35.1, r35.2.1, r38.2, r37) else ((-2), r35.2.1, r38.2, r37)))) else (r35.1, r35.2.1, r35.2.2, mw))))) else ((-1), mo, mn, mw)) else ((-1), mo, mn, mw)))) else ((-1), mo, mn, mw)) else ((-1), mo, mn, mw)))))) else ((-1), mo, mn, mw))) else ((-1), mo, mn, mw)))
def md_point (node : Int32) (rf : Int32) (cm : Int32) (mo : MO) (mn : MN) (mw : MW) : Int32 × MN × MW :=
  (yb (md_isNode node) fun r1 => (if r1 = true then (if rf < 0 then ((-1), mn, mw) else (if rf ≤ 3 then (yn node fun nk => (yn rf fun rn => (if mn.2.2.1 nk = true then ((-2), mn, mw) else (if cm = (-1) then (if (mn.2.1 ((8 * nk) + rn)) = (cm + 1) then (0, mn, mw) else (yb (md_wish rn (cm + 1) (0, mw.2.1, mw.2.2)) fun r8 => (yb (md_transact nk mn r8) fun r9 => (if r9.1 = true then (1, r9.2, r8) else ((-2), r9.2, r8))))) else (yb (md_has nk cm mo mn) fun r11 => (if r11 = true then (if (mo.2.1 cm.toNatClampNeg) = 2 then (if (mn.2.1 ((8 * nk) + rn)) = (cm + 1) then (0, mn, mw) else (yb (md_wish rn (cm + 1) (0, mw.2.1, mw.2.2)) fun r15 => (yb (md_transact nk mn r15) fun r16 => (if r16.1 = true then (1, r16.2, r15) else ((-2), r16.2, r15))))) else ((-1), mn, mw)) else ((-1), mn, mw))))))) else ((-1), mn, mw))) else ((-1), mn, mw)))
def md_place_L142 (x : Nat) (q : Nat) (mo : MO) (mp : MP) (K : Int32 → MP) : Nat → Nat → Int32 → MP
  | 0, i, w => (K w)
  | k + 1, i, w => (if ((yishr (mo.2.2.1 x) (nI (4 * i))) &&& 15) = ((yishr (mo.2.2.1 (mp.2.1 q % 60)) (nI (4 * i))) &&& 15) then (md_place_L142 x q mo mp K k (i + 1) (w + 0)) else (md_place_L142 x q mo mp K k (i + 1) (w + 1)))
def md_place_L92 (x : Nat) (mo : MO) : Nat → Nat → MP → MP
  | 0, pp, mp => mp
  | q + 1, pp, mp => (if (nI q) < ((nI pp) - 3) then mp else (if (mo.2.1 x) = 0 then (if (mo.2.1 (mp.2.1 q % 60)) = 0 then (if 2 ≤ (mp.2.2.2.1 q) then (md_place_L92 x mo q pp mp) else (md_place_L142 x q mo mp (fun w => (if (mp.2.2.2.2 pp) ≤ w then (md_place_L92 x mo q pp mp) else (md_place_L92 x mo q pp (mp.1, mp.2.1, upd mp.2.2.1 pp (nI q), upd mp.2.2.2.1 pp ((mp.2.2.2.1 q) + 1), upd mp.2.2.2.2 pp w)))) 8 0 2)) else (md_place_L92 x mo q pp mp)) else (md_place_L92 x mo q pp mp)))
def md_place (x : Nat) (mo : MO) (mp : MP) : MP :=
  (if (mo.2.1 x) = 0 then (md_place_L92 x mo mp.1 mp.1 (mp.1 + 1, yupN mp.2.1 mp.1 x, upd mp.2.2.1 mp.1 (-4), upd mp.2.2.2.1 mp.1 0, upd mp.2.2.2.2 mp.1 8)) else (if (mo.2.2.2.1 x) < 0 then (if (mo.2.2.2.2 x) < 0 then (md_place_L92 x mo mp.1 mp.1 (mp.1 + 1, yupN mp.2.1 mp.1 x, upd mp.2.2.1 mp.1 (-4), upd mp.2.2.2.1 mp.1 0, upd mp.2.2.2.2 mp.1 ((2 + 0) + 0))) else (md_place_L92 x mo mp.1 mp.1 (mp.1 + 1, yupN mp.2.1 mp.1 x, upd mp.2.2.1 mp.1 (-4), upd mp.2.2.2.1 mp.1 0, upd mp.2.2.2.2 mp.1 ((2 + 0) + 1)))) else (if (mo.2.2.2.2 x) < 0 then (md_place_L92 x mo mp.1 mp.1 (mp.1 + 1, yupN mp.2.1 mp.1 x, upd mp.2.2.1 mp.1 (-4), upd mp.2.2.2.1 mp.1 0, upd mp.2.2.2.2 mp.1 ((2 + 1) + 0))) else (md_place_L92 x mo mp.1 mp.1 (mp.1 + 1, yupN mp.2.1 mp.1 x, upd mp.2.2.1 mp.1 (-4), upd mp.2.2.2.1 mp.1 0, upd mp.2.2.2.2 mp.1 ((2 + 1) + 1))))))
def md_pack_L19 (set : Int64) (kk : Nat) (mo : MO) (K : MP → MP) : Nat → MP → MP
  | 0, mp => (K mp)
  | x + 1, mp => (if ((ylshr set (nI x)) &&& 1) = 1 then (if (mo.2.1 x) = (nI kk) then (yb (md_place x mo mp) fun r3 => (md_pack_L19 set kk mo K x r3)) else (md_pack_L19 set kk mo K x mp)) else (md_pack_L19 set kk mo K x mp))
def md_pack_L7 (set : Int64) (mo : MO) : Nat → MP → MP
  | 0, mp => mp
  | kk + 1, mp => (md_pack_L19 set kk mo (fun mp => (md_pack_L7 set mo kk mp)) mo.1 mp)
def md_pack (set : Int64) (mo : MO) (mp : MP) : MP :=
  (md_pack_L7 set mo 3 (0, mp.2.1, mp.2.2.1, mp.2.2.2.1, mp.2.2.2.2))
def md_allReach_L3 (from_ : Int64) (to_ : Int64) (mo : MO) : Nat → Nat → Bool
  | 0, i => true
  | k + 1, i => (if ((ylshr from_ (nI i)) &&& 1) = 1 then (yb (md_reach (ylshl 1 (nI i)) mo) fun r2 => (if (r2 &&& to_) = 0 then false else (md_allReach_L3 from_ to_ mo k (i + 1)))) else (md_allReach_L3 from_ to_ mo k (i + 1)))
def md_allReach (from_ : Int64) (to_ : Int64) (mo : MO) : Bool :=
  (md_allReach_L3 from_ to_ mo mo.1 0)
def md_converse_L97 (mo : MO) (mn : MN) (K : Int64 → Int32 → Int64 → Int64 × MT) : Nat → Int64 → Int32 → Int64 → (Int64 × MT)
  | 0, opn, sent, now => (K opn sent now)
  | x + 1, opn, sent, now => (if 3 ≤ sent then (md_converse_L97 mo mn K x opn sent now) else (if ((ylshr opn (nI x)) &&& 1) = 1 then (yb (md_has 0 (nI x) mo mn) fun r3 => (if r3 = true then (md_converse_L97 mo mn K x (opn &&& ((ylshl 1 (nI x)) ^^^ (-1))) (sent + 1) (now ||| (ylshl 1 (nI x)))) else (md_converse_L97 mo mn K x (opn &&& ((ylshl 1 (nI x)) ^^^ (-1))) (sent + 1) now))) else (md_converse_L97 mo mn K x opn sent now)))
def md_converse_L69 (wants : Int64) (mo : MO) (mn : MN) : Nat → Nat → Int64 → Int64 → MT → (Int64 × MT)
  | 0, i, known, opn, mt => (known, mt)
  | k + 1, i, known, opn, mt => (if opn = 0 then (known, mt) else (md_converse_L97 mo mn (fun opn sent now => (yb (md_many now) fun r6 => (yb (md_allReach wants (known ||| now) mo) fun r7 => (if r7 = true then (known ||| now, ((mt.1 + sent), (mt.2.1 + r6), (mt.2.2 + 1))) else (yb (md_reach (known ||| now) mo) fun r9 => (md_converse_L69 wants mo mn k (i + 1) (known ||| now) (opn &&& (r9 ^^^ (-1))) ((mt.1 + sent), (mt.2.1 + r6), (mt.2.2 + 1)))))))) mo.1 opn 0 0))
def md_converse_L23 (wants : Int64) (mo : MO) (mn : MN) (mt : MT) : Nat → Nat → Int64 → Int64 → Int64 → (Int64 × MT)
  | 0, i, known, opn, set => (md_converse_L69 wants mo mn 60 0 known opn mt)
  | k + 1, i, known, opn, set => (if (mo.2.1 i) = 2 then (md_converse_L23 wants mo mn mt k (i + 1) known (opn ||| (set &&& (ylshl 1 (nI i)))) set) else (md_converse_L23 wants mo mn mt k (i + 1) known opn set))
def md_converse (nk : Nat) (wants : Int64) (mo : MO) (mn : MN) (mt : MT) : Int64 × MT :=
  (yb (md_tips nk 0 7 mn) fun r11 => (yb (md_reach r11 mo) fun r12 => (md_converse_L23 wants mo mn mt mo.1 0 0 0 r12)))
def md_fetch_L54 (set : Int32) (mo : MO) (mn : MN) (mp : MP) : Nat → Nat → Nat → Int64 → MW → (Int32 × MN × MW × MT × MP)
  | 0, i, nk, wants, mw => (if wants = 0 then (yb (md_reach wants mo) fun r10 => (yb (md_reach 0 mo) fun r11 => (yb (md_pack (r10 &&& (r11 ^^^ (-1))) mo mp) fun r12 => (yb (md_store nk (r10 &&& (r11 ^^^ (-1))) mo mn) fun r13 => (if r13.1 = true then (yb (md_transact nk r13.2 mw) fun r15 => (if r15.1 = true then ((nI r12.1), r15.2, mw, (0, 0, 0), r12) else ((-2), r15.2, mw, (0, 0, 0), r12))) else ((-2), r13.2, mw, (0, 0, 0), r12)))))) else (yb (md_converse nk wants mo mn (0, 0, 0)) fun r2 => (yb (md_reach wants mo) fun r3 => (yb (md_reach r2.1 mo) fun r4 => (yb (md_pack (r3 &&& (r4 ^^^ (-1))) mo mp) fun r5 => (yb (md_store nk (r3 &&& (r4 ^^^ (-1))) mo mn) fun r6 => (if r6.1 = true then (yb (md_transact nk r6.2 mw) fun r8 => (if r8.1 = true then ((nI r5.1), r8.2, mw, r2.2, r5) else ((-2), r8.2, mw, r2.2, r5))) else ((-2), r6.2, mw, r2.2, r5))))))))
  | k + 1, i, nk, wants, mw => (if ((yishr set (nI i)) &&& 1) = 1 then (if (mn.2.1 i) ≤ 0 then (md_fetch_L54 set mo mn mp k (i + 1) nk wants mw) else (yb (md_wish (4 + i) (mn.2.1 i) mw) fun r19 => (yb (md_has nk ((mn.2.1 i) - 1) mo mn) fun r20 => (if r20 = true then (md_fetch_L54 set mo mn mp k (i + 1) nk wants r19) else (md_fetch_L54 set mo mn mp k (i + 1) nk (wants ||| (ylshl 1 ((mn.2.1 i) - 1))) r19))))) else (md_fetch_L54 set mo mn mp k (i + 1) nk wants mw))
def md_fetch (node : Int32) (set : Int32) (mo : MO) (mn : MN) (mw : MW) (mt : MT) (mp : MP) : Int32 × MN × MW × MT × MP :=
  (if node < 1 then ((-1), mn, mw, mt, mp) else (if 2 < node then ((-1), mn, mw, mt, mp) else (if set < 1 then ((-1), mn, mw, mt, mp) else (if set ≤ 15 then (yn node fun nk => (if mn.2.2.1 nk = true then ((-2), mn, mw, mt, mp) else (if mn.2.2.1 0 = true then ((-2), mn, mw, mt, mp) else (md_fetch_L54 set mo mn mp 4 0 nk 0 (0, mw.2.1, mw.2.2))))) else ((-1), mn, mw, mt, mp)))))
def md_judge (r : Nat) (old : Int32) (fresh : Int32) (mo : MO) (mn : MN) : Int32 :=
  (if (mn.2.1 r) = old then (if old ≤ 0 then 1 else (yb (md_reach (ylshl 1 (fresh - 1)) mo) fun r3 => (if ((ylshr r3 (old - 1)) &&& 1) = 0 then 3 else 1))) else 2)
def md_carry_L119 (nk : Nat) (set : Int32) (sd : Nat) (mn : MN) (K : MW → Bool × MN × MW × MP) : Nat → Nat → MW → (Bool × MN × MW × MP)
  | 0, i, mw => (K mw)
  | k + 1, i, mw => (if ((yishr set (nI i)) &&& 1) = 1 then (if (nI sd) = 0 then (yb (md_wish i (mn.2.1 ((8 * nk) + i)) mw) fun r4 => (md_carry_L119 nk set sd mn K k (i + 1) r4)) else (yb (md_wish (4 + i) (mn.2.1 ((8 * nk) + i)) mw) fun r3 => (md_carry_L119 nk set sd mn K k (i + 1) r3))) else (md_carry_L119 nk set sd mn K k (i + 1) mw))
def md_carry_L93 (nk : Nat) (set : Int32) (mo : MO) : Nat → Nat → Int64 → MN → MW → MP → (Bool × MN × MW × MP)
  | 0, sd, packed, mn, mw, mp => (true, mn, mw, mp)
  | k + 1, sd, packed, mn, mw, mp => (if (nI sd) = 0 then (md_carry_L119 nk set sd mn (fun mw => (yb (md_store 0 packed mo mn) fun r10 => (if r10.1 = true then (yb (md_transact 0 r10.2 mw) fun r12 => (if r12.1 = true then (md_carry_L93 nk set mo k (sd + 1) packed r12.2 mw mp) else (false, r12.2, mw, mp))) else (false, r10.2, mw, mp)))) 4 0 (0, mw.2.1, mw.2.2)) else (md_carry_L119 nk set sd mn (fun mw => (yb (md_transact nk mn mw) fun r7 => (if r7.1 = true then (md_carry_L93 nk set mo k (sd + 1) packed r7.2 mw mp) else (false, r7.2, mw, mp)))) 4 0 (0, mw.2.1, mw.2.2)))
def md_carry_L5 (nk : Nat) (set : Int32) (mo : MO) (mn : MN) (mw : MW) (mp : MP) : Nat → Nat → Int64 → (Bool × MN × MW × MP)
  | 0, i, fresh => (yb (md_tips 0 0 3 mn) fun r14 => (yb (md_reach fresh mo) fun r15 => (yb (md_reach (r14 &&& (mn.1 nk)) mo) fun r16 => (yb (md_pack (r15 &&& (r16 ^^^ (-1))) mo mp) fun r17 => (md_carry_L93 nk set mo 2 0 (r15 &&& (r16 ^^^ (-1))) mn mw r17)))))
  | k + 1, i, fresh => (if ((yishr set (nI i)) &&& 1) = 1 then (md_carry_L5 nk set mo mn mw mp k (i + 1) (fresh ||| (ylshl 1 ((mn.2.1 ((8 * nk) + i)) - 1)))) else (md_carry_L5 nk set mo mn mw mp k (i + 1) fresh))
def md_carry (nk : Nat) (set : Int32) (mo : MO) (mn : MN) (mw : MW) (mp : MP) : Bool × MN × MW × MP :=
  (md_carry_L5 nk set mo mn mw mp 4 0 0)
def md_push_L87 (set : Int32) (mo : MO) (mn : MN) (mw : MW) (mp : MP) : Nat → Nat → Nat → Bool → (Nat → Int32) → (Int32 × MN × MW × (Nat → Int32) × MP)
  | 0, i, nk, fine, mv => (if fine = true then (yb (md_carry nk set mo mn mw mp) fun r2 => (if r2.1 = true then (1, r2.2.1, r2.2.2.1, mv, r2.2.2.2) else ((-2), r2.2.1, r2.2.2.1, mv, r2.2.2.2))) else (0, mn, mw, mv, (0, mp.2.1, mp.2.2.1, mp.2.2.2.1, mp.2.2.2.2)))
  | k + 1, i, nk, fine, mv => (if ((yishr set (nI i)) &&& 1) = 0 then (if fine = true then (if 2 ≤ ((upd mv i 0) i) then (md_push_L87 set mo mn mw mp k (i + 1) nk false (upd mv i 0)) else (md_push_L87 set mo mn mw mp k (i + 1) nk true (upd mv i 0))) else (md_push_L87 set mo mn mw mp k (i + 1) nk false (upd mv i 0))) else (yb (md_judge i (mn.2.1 (((8 * nk) + 4) + i)) (mn.2.1 ((8 * nk) + i)) mo mn) fun r5 => (if fine = true then (if 2 ≤ ((upd mv i r5) i) then (md_push_L87 set mo mn mw mp k (i + 1) nk false (upd mv i r5)) else (md_push_L87 set mo mn mw mp k (i + 1) nk true (upd mv i r5))) else (md_push_L87 set mo mn mw mp k (i + 1) nk false (upd mv i r5)))))
def md_push_L46 (set : Int32) (mo : MO) (mn : MN) (mw : MW) (mv : (Nat → Int32)) (mp : MP) : Nat → Nat → Nat → (Int32 × MN × MW × (Nat → Int32) × MP)
  | 0, i, nk => (md_push_L87 set mo mn mw mp 4 0 nk true mv)
  | k + 1, i, nk => (if ((yishr set (nI i)) &&& 1) = 1 then (if (mn.2.1 ((8 * nk) + i)) = 0 then ((-1), mn, mw, mv, mp) else (md_push_L46 set mo mn mw mv mp k (i + 1) nk)) else (md_push_L46 set mo mn mw mv mp k (i + 1) nk))
def md_push (node : Int32) (set : Int32) (mo : MO) (mn : MN) (mw : MW) (mv : (Nat → Int32)) (mp : MP) : Int32 × MN × MW × (Nat → Int32) × MP :=
  (if node < 1 then ((-1), mn, mw, mv, mp) else (if 2 < node then ((-1), mn, mw, mv, mp) else (if set < 1 then ((-1), mn, mw, mv, mp) else (if set ≤ 15 then (yn node fun nk => (if mn.2.2.1 nk = true then ((-2), mn, mw, mv, mp) else (if mn.2.2.1 0 = true then ((-2), mn, mw, mv, mp) else (md_push_L46 set mo mn mw mv mp 4 0 nk)))) else ((-1), mn, mw, mv, mp)))))
def md_arm (node : Int32) (n : Int32) (mn : MN) : Bool × MN :=
  (yb (md_isNode node) fun r1 => (if r1 = true then (if n < (-1) then (false, mn) else (if n ≤ 100 then (yn node fun nk => (true, (mn.1, mn.2.1, mn.2.2.1, upd mn.2.2.2.1 nk (n + 1), mn.2.2.2.2.1, mn.2.2.2.2.2.1, mn.2.2.2.2.2.2.1, mn.2.2.2.2.2.2.2))) else (false, mn))) else (false, mn)))
def md_recover (node : Int32) (mn : MN) : Int32 × MN :=
  (yb (md_isNode node) fun r1 => (if r1 = true then (yn node fun nk => (if mn.2.2.1 nk = true then (if mn.2.2.2.2.2.1 nk = true then (yb (md_replay nk mn) fun r13 => (if r13.1 = true then ((nI (mn.2.2.2.2.1 nk % 5)), (r13.2.1, r13.2.2.1, yupB r13.2.2.2.1 nk false, r13.2.2.2.2.1, r13.2.2.2.2.2.1, r13.2.2.2.2.2.2.1, r13.2.2.2.2.2.2.2.1, r13.2.2.2.2.2.2.2.2)) else ((-2), r13.2))) else (if (nI (mn.2.2.2.2.1 nk % 5)) = 0 then (0, (mn.1, mn.2.1, yupB mn.2.2.1 nk false, mn.2.2.2.1, mn.2.2.2.2.1, mn.2.2.2.2.2.1, mn.2.2.2.2.2.2.1, mn.2.2.2.2.2.2.2)) else (yb (md_wipe nk mn) fun r8 => (if r8.1 = true then (0, (r8.2.1, r8.2.2.1, yupB r8.2.2.2.1 nk false, r8.2.2.2.2.1, r8.2.2.2.2.2.1, r8.2.2.2.2.2.2.1, r8.2.2.2.2.2.2.2.1, r8.2.2.2.2.2.2.2.2)) else ((-2), r8.2))))) else ((-1), mn))) else ((-1), mn)))
def md_collect (node : Int32) (mo : MO) (mn : MN) : Int32 × MN :=
  (yb (md_isNode node) fun r1 => (if r1 = true then (yn node fun nk => (if mn.2.2.1 nk = true then ((-2), mn) else (yb (md_tips nk 0 7 mn) fun r4 => (yb (md_reach r4 mo) fun r5 => (yb (md_many (mn.1 nk)) fun r6 => (yb (md_many ((mn.1 nk) &&& r5)) fun r7 => ((r6 - r7), (vp_updL mn.1 nk ((mn.1 nk) &&& r5), mn.2.1, mn.2.2.1, mn.2.2.2.1, mn.2.2.2.2.1, mn.2.2.2.2.2.1, mn.2.2.2.2.2.2.1, mn.2.2.2.2.2.2.2)))))))) else ((-1), mn)))
def md_up (node : Int32) (mn : MN) : Bool :=
  (yb (md_isNode node) fun r1 => (if r1 = true then (yn node fun nk => (if mn.2.2.1 nk = true then false else true)) else false))
def md_reference (node : Int32) (rf : Int32) (mn : MN) : Int32 :=
  (yb (md_isNode node) fun r1 => (if r1 = true then (if rf < 0 then (-1) else (if rf ≤ 7 then (yn node fun nk => (yn rf fun rn => (if mn.2.2.1 nk = true then (-2) else (if (mn.2.1 ((8 * nk) + rn)) = 0 then (-4) else ((mn.2.1 ((8 * nk) + rn)) - 1))))) else (-1))) else (-1)))
def md_holds (node : Int32) (num : Int32) (mo : MO) (mn : MN) : Int32 :=
  (yb (md_isNode node) fun r1 => (if r1 = true then (yn node fun nk => (if mn.2.2.1 nk = true then (-2) else (yb (md_has nk num mo mn) fun r4 => (if r4 = true then 1 else 0)))) else (-1)))
def md_count (node : Int32) (mn : MN) : Int32 :=
  (yb (md_isNode node) fun r1 => (if r1 = true then (yn node fun nk => (if mn.2.2.1 nk = true then (-2) else (yb (md_many (mn.1 nk)) fun r4 => r4))) else (-1)))
def md_talk (w : Int32) (mt : MT) : Int32 :=
  (if w < 0 then (-1) else (if w ≤ 2 then (if w = 0 then mt.1 else (if w = 1 then mt.2.1 else mt.2.2)) else (-1)))
def md_packed (mp : MP) : Nat :=
  mp.1
def md_packAt (pl : Int32) (mp : MP) : Int32 :=
  (if pl < 0 then (-4) else (if pl < (nI mp.1) then (nI (mp.2.1 pl.toNatClampNeg % 60)) else (-4)))
def md_base (pl : Int32) (mp : MP) : Int32 :=
  (if pl < 0 then (-4) else (if pl < (nI mp.1) then (mp.2.2.1 pl.toNatClampNeg) else (-4)))
def md_weight_L4 (mp : MP) : Nat → Nat → Int32 → Int32
  | 0, i, sum => sum
  | k + 1, i, sum => (md_weight_L4 mp k (i + 1) (sum + (mp.2.2.2.2 i)))
def md_weight (mp : MP) : Int32 :=
  (md_weight_L4 mp mp.1 0 0)
def md_verdict (r : Int32) (mv : (Nat → Int32)) : Int32 :=
  (if r < 0 then 0 else (if r ≤ 3 then (mv r.toNatClampNeg) else 0))
def st_init : SS := ((fun _ => 0), (fun _ => 0), (fun _ => 0), (fun _ => 0), (fun _ => 0), 0)
def nd_init : NS := (upd (upd (upd (upd (upd (upd (upd (upd (fun _ => 0) 0 (-1)) 1 (-1)) 2 (-1)) 3 (-1)) 4 (-1)) 5 (-1)) 6 (-1)) 7 (-1), upd (upd (upd (upd (upd (upd (upd (upd (fun _ => 0) 0 (-2)) 1 (-2)) 2 (-2)) 3 (-2)) 4 (-2)) 5 (-2)) 6 (-2)) 7 (-2), 0, false, 0, true, (-1))
def tk_init : TS := (0, 0, 0)
def pk_init : PS := ((fun _ => 0), (fun _ => 0), (fun _ => 0), 0, 0, 0)
def md_init_o : MO := (0, (fun _ => 0), (fun _ => 0), (fun _ => 0), (fun _ => 0))
def md_init_n : MN := ((fun _ => 0), (fun _ => 0), (fun _ => false), (fun _ => 0), (fun _ => 0), (fun _ => false), (fun _ => 0), (fun _ => 0))
def md_init_w : MW := (0, (fun _ => 0), (fun _ => 0))
def md_init_t : MT := (0, 0, 0)
def md_init_v : Nat → Int32 := fun _ => 0
def md_init_p : MP := (0, (fun _ => 0), (fun _ => 0), (fun _ => 0), (fun _ => 0))
end
section
/-! facts of the pure functions that the walks need -/
theorem px_isNode_nat {x : Int32} {r : Bool} (e : r = px_isNode x) (h : r = true) : ∃ k : Nat, x.toNatClampNeg = k ∧ k < 3 ∧ x = nI k := by
  subst e
  unfold px_isNode at h
  split at h
  · cases h
  · split at h
    · cases h
    · exact yy_nat (yy_in ‹_› ‹_› rfl) (by decide)
theorem px_isClient_nat {x : Int32} {r : Bool} (e : r = px_isClient x) (h : r = true) : ∃ k : Nat, x.toNatClampNeg = k ∧ k < 3 ∧ x = nI k := by
  subst e
  unfold px_isClient at h
  simp only [yb] at h
  split at h
  · exact px_isNode_nat rfl ‹_›
  · cases h
theorem px_isClient_ne {k : Nat} {r : Bool} (e : r = px_isClient (nI k)) (h : r = true) : k ≠ 0 := by
  intro hk
  subst hk
  subst e
  exact absurd h (by decide)
theorem px_isOwn_nat {x : Int32} {r : Bool} (e : r = px_isOwnReference x) (h : r = true) : ∃ k : Nat, x.toNatClampNeg = k ∧ k < 4 ∧ x = nI k := by
  subst e
  unfold px_isOwnReference at h
  split at h
  · cases h
  · split at h
    · cases h
    · exact yy_nat (yy_in ‹_› ‹_› rfl) (by decide)
theorem px_isOwn_in {x : Int32} {r : Bool} (e : r = px_isOwnReference x) (h : r = true) : vp_in x 4 := by
  obtain ⟨k, -, h2, rfl⟩ := px_isOwn_nat e h
  exact vp_in_nI h2 (by decide)
theorem md_isNode_nat {x : Int32} {r : Bool} (e : r = md_isNode x) (h : r = true) : ∃ k : Nat, x.toNatClampNeg = k ∧ k < 3 ∧ x = nI k := by
  subst e
  unfold md_isNode at h
  split at h
  · cases h
  · split at h
    · cases h
    · next h0 h2 =>
      refine yy_nat ?_ (by decide)
      rw [vp_in_iff]
      rw [yy_lti] at h0 h2
      have e0 : (0 : Int32).toInt = 0 := rfl
      have e2 : (2 : Int32).toInt = 2 := rfl
      omega
theorem st_isNumber_in {x : Int32} {so : SS} {r : Bool} (e : r = st_isNumber x so) (h : r = true) (hs : so.2.2.2.2.2 ≤ 60) : vp_in x 60 := by
  subst e
  unfold st_isNumber at h
  split at h
  · cases h
  · split at h
    · cases h
    · exact yy_in5 ‹_› ‹_› hs (by decide)
theorem st_isFull_lt {so : SS} {r : Bool} (e : r = st_isFull so) (h : r = false) (hs : so.2.2.2.2.2 ≤ 60) : so.2.2.2.2.2 < 60 := by
  subst e
  unfold st_isFull at h
  split at h
  · next h1 =>
    rw [yy_lti, nI_toInt (by omega)] at h1
    have e6 : (60 : Int32).toInt = 60 := rfl
    omega
  · cases h
theorem pk_isPlace_in {x : Int32} {pk : PS} {r : Bool} (e : r = pk_isPlace x pk) (h : r = true) (hp : pk.2.2.2.2.1 ≤ 60) : vp_in x 60 := by
  subst e
  unfold pk_isPlace at h
  split at h
  · cases h
  · split at h
    · cases h
    · exact yy_in5 ‹_› ‹_› hp (by decide)
theorem md_has_in {nk : Nat} {x : Int32} {mo : MO} {mn : MN} {r : Bool} (e : r = md_has nk x mo mn) (h : r = true) (ho : mo.1 ≤ 60) : vp_in x 60 := by
  subst e
  unfold md_has at h
  split at h
  · cases h
  · split at h
    · cases h
    · exact yy_in5 ‹_› ‹_› ho (by decide)
theorem md_write_noted (nk : Nat) (mn : MN) : (md_write nk mn).2.2.2.2.2.1 = mn.2.2.2.2.1 := by
  unfold md_write
  split
  · rfl
  · split <;> rfl
theorem md_replay_hi {nk i k : Nat} {mn : MN} {r : Bool × MN} (e : r = md_write nk mn) (hi : i + (k + 1) = mn.2.2.2.2.1 nk % 5) : i + 1 + k = r.2.2.2.2.2.1 nk % 5 := by
  subst e
  rw [md_write_noted]
  omega
theorem yy_lt60' {s : Nat} (h : ¬ (60 : Int32) ≤ nI s) (hs : s ≤ 60) : s < 60 := by
  rcases Nat.lt_or_eq_of_le hs with h1 | h1
  · exact h1
  · subst h1
    exact absurd (by decide +kernel) h
theorem md_wish_le {r : MW} {a : Nat} {v : Int32} {mw : MW} {N : Nat} (e : r = md_wish a v mw) (h : mw.1 + 1 ≤ N) : r.1 ≤ N := by
  subst e
  exact h
theorem pk_chooseBase_L_size {pl : Nat} {so : SS} : ∀ (q : Nat) (least content : Int32) (pk : PS), (pk_chooseBase_L20 pl so q least content pk).2.2.2.2.2.1 = pk.2.2.2.2.1
  | 0, least, content, pk => rfl
  | q + 1, least, content, pk => by
    rw [pk_chooseBase_L20]
    simp only [yb]
    split
    · rfl
    · split
      · split
        · exact pk_chooseBase_L_size q _ _ _
        · split
          · exact pk_chooseBase_L_size q _ _ _
          · exact pk_chooseBase_L_size q _ _ _
      · exact pk_chooseBase_L_size q _ _ _
theorem pk_placeKind_L_le {kd : Int32} {so : SS} : ∀ (x : Nat) (pk : PS), pk.2.2.2.2.1 ≤ 60 → (pk_placeKind_L3 kd so x pk).2.2.2.2.1 ≤ 60
  | 0, pk, h => h
  | x + 1, pk, h => by
    rw [pk_placeKind_L3]
    simp only [yb]
    split
    · exact h
    · rename_i h1
      have h2 := yy_lt60' h1 h
      split
      · split
        · split
          · exact pk_placeKind_L_le x _ h2
          · exact pk_placeKind_L_le x _ h2
        · exact pk_placeKind_L_le x _ h
      · exact pk_placeKind_L_le x _ h
theorem pk_placeKind_le {kd : Int32} {so : SS} {pk r : PS} (e : r = pk_placeKind kd pk so) (h : pk.2.2.2.2.1 ≤ 60) : r.2.2.2.2.1 ≤ 60 := by
  subst e
  exact pk_placeKind_L_le 60 pk h
/-! there is room in the pack: each object is placed once -/
def kcnt (kd : Nat → Int32) (q : Nat) : Nat → Nat
  | 0 => 0
  | y + 1 => kcnt kd q y + (if kd y = nI q then 1 else 0)
def ybel (mo : MO) : Nat → Nat
  | 0 => 0
  | q + 1 => ybel mo q + kcnt mo.2.1 q mo.1
def yc7 (mo : MO) (q s : Nat) : Prop := s + ybel mo q ≤ 60
def yc19 (mo : MO) (q x s : Nat) : Prop := s + kcnt mo.2.1 q x + ybel mo q ≤ 60
theorem kcnt3 (kd : Nat → Int32) : ∀ n : Nat, kcnt kd 0 n + kcnt kd 1 n + kcnt kd 2 n ≤ n
  | 0 => Nat.le_refl _
  | y + 1 => by
    have h := kcnt3 kd y
    rw [kcnt, kcnt, kcnt]
    by_cases h0 : kd y = nI 0
    · rw [if_pos h0, if_neg (show ¬ kd y = nI 1 by rw [h0]; decide +kernel), if_neg (show ¬ kd y = nI 2 by rw [h0]; decide +kernel)]
      omega
    · rw [if_neg h0]
      by_cases h1 : kd y = nI 1
      · rw [if_pos h1, if_neg (show ¬ kd y = nI 2 by rw [h1]; decide +kernel)]
        omega
      · rw [if_neg h1]
        split <;> omega
theorem yc7_0 {mo : MO} (ho : mo.1 ≤ 60) : yc7 mo 3 0 := by
  have h := kcnt3 mo.2.1 mo.1
  unfold yc7
  simp only [ybel]
  omega
theorem yc7_19 {mo : MO} {q s : Nat} (h : yc7 mo (q + 1) s) : yc19 mo q mo.1 s := by
  unfold yc7 at h
  unfold yc19
  rw [ybel] at h
  omega
theorem yc19_7 {mo : MO} {q s : Nat} (h : yc19 mo q 0 s) : yc7 mo q s := by
  unfold yc19 at h
  unfold yc7
  rw [kcnt] at h
  omega
theorem yc19_s {mo : MO} {q x s : Nat} (h : yc19 mo q (x + 1) s) : yc19 mo q x s := by
  unfold yc19 at h ⊢
  rw [kcnt] at h
  omega
theorem yc19_p {mo : MO} {q x s : Nat} (h : yc19 mo q (x + 1) s) (hk : mo.2.1 x = nI q) : s < 60 ∧ yc19 mo q x (s + 1) := by
  unfold yc19 at h ⊢
  rw [kcnt, if_pos hk] at h
  omega
theorem place142 {x q : Nat} {mo : MO} {mp : MP} {K : Int32 → MP} : ∀ (k i : Nat) (w : Int32), ∃ w', md_place_L142 x q mo mp K k i w = K w'
  | 0, i, w => ⟨w, rfl⟩
  | k + 1, i, w => by
    rw [md_place_L142]
    split
    · exact place142 k (i + 1) _
    · exact place142 k (i + 1) _
theorem place92 {x : Nat} {mo : MO} : ∀ (q pp : Nat) (mp : MP), (md_place_L92 x mo q pp mp).1 = mp.1
  | 0, pp, mp => rfl
  | q + 1, pp, mp => by
    rw [md_place_L92]
    split
    · rfl
    · split
      · split
        · split
          · exact place92 q pp mp
          · obtain ⟨w', e⟩ := place142 (x := x) (q := q) (mo := mo) (mp := mp) (K := fun w => (if (mp.2.2.2.2 pp) ≤ w then (md_place_L92 x mo q pp mp) else (md_place_L92 x mo q pp (mp.1, mp.2.1, upd mp.2.2.1 pp (nI q), upd mp.2.2.2.1 pp ((mp.2.2.2.1 q) + 1), upd mp.2.2.2.2 pp w)))) 8 0 2
            rw [e]
            split
            · exact place92 q pp mp
            · exact place92 q pp _
        · exact place92 q pp mp
      · exact place92 q pp mp
theorem md_place_size (x : Nat) (mo : MO) (mp : MP) : (md_place x mo mp).1 = mp.1 + 1 := by
  unfold md_place
  split
  · exact place92 _ _ _
  · split
    · split
      · exact place92 _ _ _
      · exact place92 _ _ _
    · split
      · exact place92 _ _ _
      · exact place92 _ _ _
theorem yc19_q {mo : MO} {q x : Nat} {mp r : MP} (h : yc19 mo q (x + 1) mp.1) (hk : mo.2.1 x = nI q) (e : r = md_place x mo mp) : yc19 mo q x r.1 := by
  subst e
  rw [md_place_size]
  exact (yc19_p h hk).2
end
section
/-! sets of objects: the bits of a long -/
def yx (x : Int64) (i : Nat) : Bool := x.toBitVec.getLsbD i
theorem yx_ext {x y : Int64} (h : ∀ i, i < 64 → yx x i = yx y i) : x = y := Int64.toBitVec_inj.1 (BitVec.eq_of_getLsbD_eq h)
theorem yx_big (x : Int64) {i : Nat} (h : 64 ≤ i) : yx x i = false := BitVec.getLsbD_of_ge _ _ h
theorem yx_or (x y : Int64) (i : Nat) : yx (x ||| y) i = (yx x i || yx y i) := BitVec.getLsbD_or
theorem yx_and (x y : Int64) (i : Nat) : yx (x &&& y) i = (yx x i && yx y i) := BitVec.getLsbD_and
theorem yx_m1 : (-1 : Int64).toBitVec = BitVec.allOnes 64 := by decide
theorem yx_not (x : Int64) {i : Nat} (h : i < 64) : yx (x ^^^ (-1)) i = !yx x i := by
  show (x.toBitVec ^^^ (-1 : Int64).toBitVec).getLsbD i = !x.toBitVec.getLsbD i
  rw [yx_m1, BitVec.getLsbD_xor, BitVec.getLsbD_allOnes]
  simp [h]
theorem yx_0 (i : Nat) : yx 0 i = false := by
  show (0#64).getLsbD i = false
  exact BitVec.getLsbD_zero
theorem yx_tp : ∀ n, n < 64 → (ylshl 1 (nI n)).toBitVec = BitVec.twoPow 64 n := by decide +kernel
theorem yx_1 {n : Nat} (hn : n < 64) (i : Nat) : yx (ylshl 1 (nI n)) i = decide (n = i) := by
  unfold yx
  rw [yx_tp n hn, BitVec.getLsbD_twoPow]
  simp [hn]
theorem yx_sm : ∀ n, n < 64 → (((nI n).toInt64 &&& 63).toBitVec.smod 64).toNat = n := by decide +kernel
theorem yx_su : ∀ n, n < 64 → (((nI n).toInt64.toUInt64 &&& Int64.toUInt64 63).toBitVec % 64).toNat = n := by decide +kernel
theorem yx_shr (x : Int64) {n : Nat} (hn : n < 64) (i : Nat) : yx (ylshr x (nI n) &&& 1) i = (decide (i = 0) && yx x n) := by
  rw [yx_and]
  have h1 : yx 1 i = decide (i = 0) := by
    show (1#64).getLsbD i = _
    rw [BitVec.getLsbD_one]
    simp
  rw [h1]
  by_cases hi : i = 0
  · subst hi
    have h2 : yx (ylshr x (nI n)) 0 = yx x n := by
      show (x.toBitVec.sshiftRight (((nI n).toInt64 &&& 63).toBitVec.smod 64).toNat).getLsbD 0 = _
      rw [yx_sm n hn, BitVec.getLsbD_sshiftRight]
      simp [hn, yx]
    rw [h2]
    simp
  · simp [hi]
theorem yx_shr1 (x : Int64) {n : Nat} (hn : n < 64) : (ylshr x (nI n) &&& 1) = if yx x n = true then 1 else 0 := by
  apply yx_ext
  intro i hi
  rw [yx_shr x hn]
  split
  · next h =>
    rw [h]
    show _ = (1#64).getLsbD i
    rw [BitVec.getLsbD_one]
    simp
  · next h =>
    rw [yx_0]
    simp [h]
theorem yx_shr_1 (x : Int64) {n : Nat} (hn : n < 64) : (ylshr x (nI n) &&& 1) = 1 ↔ yx x n = true := by
  rw [yx_shr1 x hn]
  split
  · next h => simp [h]
  · next h =>
    constructor
    · intro h1
      exact absurd h1 (by decide)
    · intro h1
      exact absurd h1 h
theorem yx_shr_0 (x : Int64) {n : Nat} (hn : n < 64) : (ylshr x (nI n) &&& 1) = 0 ↔ yx x n = false := by
  rw [yx_shr1 x hn]
  split
  · next h =>
    constructor
    · intro h1
      exact absurd h1 (by decide)
    · intro h1
      rw [h1] at h
      cases h
  · next h => simpa using h
theorem yx_ush_0 (x : Int64) {n : Nat} (hn : n < 64) : (ylushr x (nI n) &&& 1) = 0 ↔ yx x n = false := by
  have key : ∀ i, yx (ylushr x (nI n) &&& 1) i = (decide (i = 0) && yx x n) := by
    intro i
    rw [yx_and]
    have h1 : yx 1 i = decide (i = 0) := by
      show (1#64).getLsbD i = _
      rw [BitVec.getLsbD_one]
      simp
    rw [h1]
    by_cases hi : i = 0
    · subst hi
      have h2 : yx (ylushr x (nI n)) 0 = yx x n := by
        show (x.toBitVec >>> (((nI n).toInt64.toUInt64 &&& Int64.toUInt64 63).toBitVec % 64)).getLsbD 0 = _
        rw [BitVec.ushiftRight_eq', yx_su n hn, BitVec.getLsbD_ushiftRight]
        simp [yx]
      rw [h2]
      simp
    · simp [hi]
  constructor
  · intro h
    have := key 0
    rw [h, yx_0] at this
    simpa using this.symm
  · intro h
    apply yx_ext
    intro i hi
    rw [key, h, yx_0]
    simp
/-- a set within the first n numbers -/
def yin (x : Int64) (n : Nat) : Prop := ∀ i, n ≤ i → yx x i = false
theorem px_isIn_nI {x : Int64} {i : Nat} (h : i < 60) : px_isIn x (nI i) = yx x i := by
  unfold px_isIn
  rw [if_neg (nI_pos (by omega)), if_neg (show ¬ (60 : Int32) ≤ nI i from nI_ge (b := 60) h (by decide))]
  split
  · next h1 => exact ((yx_ush_0 x (by omega)).mp h1).symm
  · next h1 =>
    cases hx : yx x i with
    | true => rfl
    | false => exact absurd ((yx_ush_0 x (by omega)).mpr hx) h1
/-! how many bits -/
def ycnt (x : Int64) : Nat → Nat
  | 0 => 0
  | i + 1 => ycnt x i + (if yx x i = true then 1 else 0)
theorem ycnt_le (x : Int64) : ∀ i, ycnt x i ≤ i
  | 0 => Nat.le_refl _
  | i + 1 => by
    have := ycnt_le x i
    unfold ycnt
    split <;> omega
theorem md_many_L (x : Int64) : ∀ k i : Nat, i + k ≤ 64 → md_many_L4 x k i (nI (ycnt x i)) = nI (ycnt x (i + k))
  | 0, i, _ => rfl
  | k + 1, i, h => by
    rw [md_many_L4]
    have h1 : nI (ycnt x i) + ((ylshr x (nI i) &&& 1).toInt32) = nI (ycnt x (i + 1)) := by
      rw [yx_shr1 x (by omega)]
      show _ = nI (ycnt x i + (if yx x i = true then 1 else 0))
      rw [← nI_add]
      split <;> rfl
    rw [h1, md_many_L x k (i + 1) (by omega)]
    congr 2
    omega
theorem md_many_eq (x : Int64) : md_many x = nI (ycnt x 60) := md_many_L x 60 0 (by decide)
/-! the JDK's count: on Nat, byte by byte -/
def pcm (m : Nat) : Nat → Nat
  | 0 => 0
  | k + 1 => 256 * pcm m k + m
theorem pc_and {q r Q R : Nat} (hr : r < 256) (hR : R < 256) : (256 * q + r) &&& (256 * Q + R) = 256 * (q &&& Q) + (r &&& R) := by
  have hrR : r &&& R < 256 := Nat.lt_of_le_of_lt Nat.and_le_left hr
  apply Nat.eq_of_testBit_eq
  intro i
  rw [Nat.testBit_and]
  have e : (256 : Nat) = 2 ^ 8 := rfl
  rw [e] at hr hR hrR ⊢
  rw [Nat.testBit_two_pow_mul_add _ hr, Nat.testBit_two_pow_mul_add _ hR, Nat.testBit_two_pow_mul_add _ hrR]
  split
  · rw [Nat.testBit_and]
  · rw [Nat.testBit_and]
end
section
/-! sets and what they reach -/
theorem yx_or0 (a : Int64) : a ||| 0 = a := by
  apply yx_ext
  intro i _
  rw [yx_or, yx_0, Bool.or_false]
theorem yx_orA (a b c : Int64) : (a ||| b) ||| c = a ||| (b ||| c) := by
  apply yx_ext
  intro i _
  rw [yx_or, yx_or, yx_or, yx_or, Bool.or_assoc]
theorem yx_orC (a b : Int64) : a ||| b = b ||| a := by
  apply yx_ext
  intro i _
  rw [yx_or, yx_or, Bool.or_comm]
theorem yin_or {a b : Int64} {n : Nat} (ha : yin a n) (hb : yin b n) : yin (a ||| b) n := fun i hi => by
  rw [yx_or, ha i hi, hb i hi]
  rfl
theorem yin_and {a b : Int64} {n : Nat} (ha : yin a n) : yin (a &&& b) n := fun i hi => by
  rw [yx_and, ha i hi]
  rfl
theorem yin_0 {n : Nat} : yin 0 n := fun i _ => yx_0 i
theorem yin_1 {i n : Nat} (h : i < n) (hn : n ≤ 64) : yin (ylshl 1 (nI i)) n := fun j hj => by
  rw [yx_1 (by omega)]
  exact decide_eq_false (by omega)
theorem yin_mono {a : Int64} {n m : Nat} (h : yin a n) (hm : n ≤ m) : yin a m := fun i hi => h i (Nat.le_trans hm hi)
/-- what an object names -/
def yP (mo : MO) (x : Nat) : Int64 := if mo.2.1 x ≤ 0 then 0 else ((ylshl 1 (mo.2.2.1 x)) ||| (if mo.2.2.2.1 x < 0 then 0 else ylshl 1 (mo.2.2.2.1 x))) ||| (if mo.2.2.2.2 x < 0 then 0 else ylshl 1 (mo.2.2.2.2 x))
def yR (mo : MO) : Nat → Int64 → Int64
  | 0, a => a
  | x + 1, a => yR mo x (if yx a x = true then a ||| yP mo x else a)
theorem yR_eq (mo : MO) : ∀ (n : Nat) (a : Int64), n ≤ 64 → md_reach_L10 mo n a = yR mo n a
  | 0, a, _ => rfl
  | x + 1, a, h => by
    rw [md_reach_L10, yR]
    by_cases hx : yx a x = true
    · rw [if_pos ((yx_shr_1 a (by omega)).mpr hx), if_pos hx]
      unfold yP
      by_cases hk : mo.2.1 x ≤ 0
      · simp only [if_pos hk, yx_or0]
        exact yR_eq mo x a (by omega)
      · by_cases h2 : mo.2.2.2.1 x < 0
        · by_cases h3 : mo.2.2.2.2 x < 0
          · simp only [if_neg hk, if_pos h2, if_pos h3, yx_or0]
            exact yR_eq mo x _ (by omega)
          · simp only [if_neg hk, if_pos h2, if_neg h3, yx_or0, yx_orA]
            exact yR_eq mo x _ (by omega)
        · by_cases h3 : mo.2.2.2.2 x < 0
          · simp only [if_neg hk, if_neg h2, if_pos h3, yx_or0, yx_orA]
            exact yR_eq mo x _ (by omega)
          · simp only [if_neg hk, if_neg h2, if_neg h3, yb, yx_orA]
            exact yR_eq mo x _ (by omega)
    · rw [if_neg (fun hh => hx ((yx_shr_1 a (by omega)).mp hh)), if_neg hx]
      exact yR_eq mo x a (by omega)
theorem yR_step (p a b : Int64) (x : Nat) : (if yx (a ||| b) x = true then (a ||| b) ||| p else a ||| b) = (if yx a x = true then a ||| p else a) ||| (if yx b x = true then b ||| p else b) := by
  by_cases ha : yx a x = true
  · by_cases hb : yx b x = true
    · rw [if_pos (show yx (a ||| b) x = true by rw [yx_or, ha]; rfl), if_pos ha, if_pos hb]
      apply yx_ext
      intro i _
      simp only [yx_or]
      cases yx a i <;> cases yx b i <;> cases yx p i <;> rfl
    · rw [if_pos (show yx (a ||| b) x = true by rw [yx_or, ha]; rfl), if_pos ha, if_neg hb]
      apply yx_ext
      intro i _
      simp only [yx_or]
      cases yx a i <;> cases yx b i <;> cases yx p i <;> rfl
  · by_cases hb : yx b x = true
    · rw [if_pos (show yx (a ||| b) x = true by rw [yx_or, hb, Bool.or_true]), if_neg ha, if_pos hb]
      apply yx_ext
      intro i _
      simp only [yx_or]
      cases yx a i <;> cases yx b i <;> cases yx p i <;> rfl
    · rw [if_neg (show ¬ yx (a ||| b) x = true by rw [yx_or, Bool.not_eq_true _ |>.mp ha, Bool.not_eq_true _ |>.mp hb]; decide), if_neg ha, if_neg hb]
theorem yR_or (mo : MO) : ∀ (n : Nat) (a b : Int64), yR mo n (a ||| b) = yR mo n a ||| yR mo n b
  | 0, a, b => rfl
  | x + 1, a, b => by
    rw [yR, yR_step, yR_or mo x]
    rfl
theorem yR_lo (mo : MO) : ∀ (n : Nat) (a : Int64), (∀ i, i < n → yx a i = false) → yR mo n a = a
  | 0, a, _ => rfl
  | x + 1, a, h => by
    rw [yR, if_neg (show ¬ yx a x = true by rw [h x (by omega)]; decide)]
    exact yR_lo mo x a (fun i hi => h i (by omega))
theorem yR_0 (mo : MO) (n : Nat) : yR mo n 0 = 0 := yR_lo mo n 0 (fun i _ => yx_0 i)
/-- an object of the tables names objects of lower numbers -/
def yVal (mo : MO) (x : Nat) : Prop := mo.2.1 x = 0 ∨ ((mo.2.1 x = 1 ∨ mo.2.1 x = 2) ∧ (∃ a, a < x ∧ mo.2.2.1 x = nI a) ∧ (mo.2.2.2.1 x = -1 ∨ ∃ b, b < x ∧ mo.2.2.2.1 x = nI b) ∧ (mo.2.2.2.2 x = -1 ∨ ∃ c, c < x ∧ mo.2.2.2.2 x = nI c))
theorem yP_in {mo : MO} {x : Nat} (h : yVal mo x) (hx : x ≤ 60) : yin (yP mo x) x := by
  rcases h with h0 | ⟨hk, ⟨a, ha, ea⟩, h2, h3⟩
  · rw [yP, if_pos (show mo.2.1 x ≤ 0 by rw [h0]; decide)]
    exact yin_0
  · unfold yP
    split
    · exact yin_0
    · refine yin_or (yin_or ?_ ?_) ?_
      · rw [ea]
        exact yin_1 ha (by omega)
      · split
        · exact yin_0
        · rename_i hn
          rcases h2 with h2 | ⟨b, hb, eb⟩
          · exact absurd (show mo.2.2.2.1 x < 0 by rw [h2]; decide) hn
          · rw [eb]
            exact yin_1 hb (by omega)
      · split
        · exact yin_0
        · rename_i hn
          rcases h3 with h3 | ⟨c, hc, ec⟩
          · exact absurd (show mo.2.2.2.2 x < 0 by rw [h3]; decide) hn
          · rw [ec]
            exact yin_1 hc (by omega)
theorem yR_in {mo : MO} {m : Nat} (hm : m ≤ 60) : ∀ (n : Nat) (a : Int64), n ≤ m → (∀ x, x < n → yVal mo x) → yin a m → yin (yR mo n a) m
  | 0, a, _, _, h => h
  | x + 1, a, hn, hv, h => by
    rw [yR]
    refine yR_in hm x _ (by omega) (fun y hy => hv y (by omega)) ?_
    split
    · exact yin_or h (yin_mono (yP_in (hv x (by omega)) (by omega)) (by omega))
    · exact h
theorem yR_congr {mo mo' : MO} : ∀ (n : Nat) (a : Int64), (∀ x, x < n → yP mo x = yP mo' x) → yR mo n a = yR mo' n a
  | 0, a, _ => rfl
  | x + 1, a, h => by
    rw [yR, yR, h x (by omega)]
    exact yR_congr x _ (fun y hy => h y (by omega))
/-- a set's members below i -/
def yor (x : Int64) : Nat → Int64
  | 0 => 0
  | i + 1 => yor x i ||| (if yx x i = true then ylshl 1 (nI i) else 0)
theorem yx_yor (x : Int64) : ∀ (n j : Nat), n ≤ 64 → yx (yor x n) j = (decide (j < n) && yx x j)
  | 0, j, _ => by
    rw [yor, yx_0, decide_eq_false (by omega)]
    rfl
  | i + 1, j, h => by
    rw [yor, yx_or, yx_yor x i j (by omega)]
    by_cases hj : i = j
    · subst hj
      rw [decide_eq_false (show ¬ i < i by omega), decide_eq_true (show i < i + 1 by omega)]
      by_cases hx : yx x i = true
      · rw [if_pos hx, yx_1 (by omega), hx]
        simp
      · rw [if_neg hx, yx_0]
        simp [hx]
    · have e : decide (j < i + 1) = decide (j < i) := by
        by_cases h1 : j < i
        · rw [decide_eq_true h1, decide_eq_true (show j < i + 1 by omega)]
        · rw [decide_eq_false h1, decide_eq_false (show ¬ j < i + 1 by omega)]
      rw [e]
      by_cases hx : yx x i = true
      · rw [if_pos hx, yx_1 (by omega), decide_eq_false hj, Bool.or_false]
      · rw [if_neg hx, yx_0, Bool.or_false]
theorem yor_eq {x : Int64} {n : Nat} (h : yin x n) (hn : n ≤ 64) : yor x n = x := by
  apply yx_ext
  intro i _
  rw [yx_yor x n i hn]
  by_cases hi : i < n
  · rw [decide_eq_true hi]
    rfl
  · rw [h i (by omega), Bool.and_false]
/-- the two tables of objects -/
def OBJ (so : SS) (mo : MO) : Prop := so.2.2.2.2.2 = mo.1 ∧ mo.1 ≤ 60 ∧ so.1 = mo.2.1 ∧ so.2.1 = mo.2.2.1 ∧ so.2.2.1 = mo.2.2.2.1 ∧ so.2.2.2.1 = mo.2.2.2.2 ∧ (∀ x, x < mo.1 → yVal mo x) ∧ (∀ x, x < mo.1 → so.2.2.2.2.1 x = yR mo mo.1 (ylshl 1 (nI x)))
theorem md_reach_eq {mo : MO} (ho : mo.1 ≤ 60) (a : Int64) : md_reach a mo = yR mo mo.1 a := by
  unfold md_reach
  exact yR_eq mo mo.1 a (by omega)
section OB
variable {so : SS} {mo : MO} {objs goals wants : Int64}
theorem OBJ.reachIn (H : OBJ so mo) {a : Int64} (h : yin a mo.1) : yin (yR mo mo.1 a) mo.1 := yR_in H.2.1 mo.1 a (Nat.le_refl _) H.2.2.2.2.2.2.1 h
theorem st_reachOfAll_L (H : OBJ so mo) : ∀ (k i : Nat), i + k = mo.1 → st_reachOfAll_L5 objs so k i (yR mo mo.1 (yor objs i)) = yR mo mo.1 (yor objs mo.1)
  | 0, i, h => by
    have e : i = mo.1 := by omega
    rw [st_reachOfAll_L5, e]
  | k + 1, i, h => by
    have h60 := H.2.1
    rw [st_reachOfAll_L5]
    simp only [yb]
    rw [px_isIn_nI (by omega)]
    by_cases hx : yx objs i = true
    · have e : yor objs i ||| ylshl 1 (nI i) = yor objs (i + 1) := by rw [yor, if_pos hx]
      rw [if_pos hx, H.2.2.2.2.2.2.2 i (by omega), ← yR_or, e]
      exact st_reachOfAll_L H k (i + 1) (by omega)
    · have e : yor objs (i + 1) = yor objs i := by rw [yor, if_neg hx, yx_or0]
      rw [if_neg hx, ← e]
      exact st_reachOfAll_L H k (i + 1) (by omega)
theorem st_reachOfAll_eq (H : OBJ so mo) (h : yin objs mo.1) : st_reachOfAll objs so = yR mo mo.1 objs := by
  have h60 := H.2.1
  have t := st_reachOfAll_L (objs := objs) H mo.1 0 (by omega)
  rw [yor_eq h (by omega), yor, yR_0] at t
  unfold st_reachOfAll
  rw [H.1]
  exact t
theorem eachR_L (H : OBJ so mo) : ∀ (k i : Nat), i + k = mo.1 → st_eachReachesOne_L3 objs goals so k i = md_allReach_L3 objs goals mo k i
  | 0, i, h => rfl
  | k + 1, i, h => by
    have h60 := H.2.1
    rw [st_eachReachesOne_L3, md_allReach_L3]
    simp only [yb]
    rw [px_isIn_nI (by omega)]
    by_cases hx : yx objs i = true
    · rw [if_pos hx, if_pos ((yx_shr_1 objs (by omega)).mpr hx), H.2.2.2.2.2.2.2 i (by omega), md_reach_eq h60, eachR_L H k (i + 1) (by omega)]
    · rw [if_neg hx, if_neg (fun hh => hx ((yx_shr_1 objs (by omega)).mp hh)), eachR_L H k (i + 1) (by omega)]
theorem eachR_eq (H : OBJ so mo) : st_eachReachesOne objs goals so = md_allReach objs goals mo := by
  unfold st_eachReachesOne md_allReach
  rw [H.1]
  exact eachR_L H mo.1 0 (by omega)
theorem eachR_none (H : OBJ so mo) : ∀ (k i : Nat), i + k = mo.1 → st_eachReachesOne_L3 objs 0 so k i = true → ∀ j, i ≤ j → j < mo.1 → yx objs j = false
  | 0, i, h, _ => fun j h1 h2 => absurd h1 (by omega)
  | k + 1, i, h, ht => by
    have h60 := H.2.1
    rw [st_eachReachesOne_L3] at ht
    simp only [yb] at ht
    rw [px_isIn_nI (by omega)] at ht
    by_cases hx : yx objs i = true
    · rw [if_pos hx, if_pos (show (so.2.2.2.2.1 i &&& 0) = 0 by apply yx_ext; intro q _; rw [yx_and, yx_0, Bool.and_false])] at ht
      cases ht
    · rw [if_neg hx] at ht
      intro j h1 h2
      rcases Nat.lt_or_eq_of_le h1 with h3 | h3
      · exact eachR_none H k (i + 1) (by omega) ht j h3 h2
      · subst h3
        exact (Bool.not_eq_true _).mp hx
theorem eachR_0 (H : OBJ so mo) (hin : yin objs mo.1) (hne : ¬ objs = 0) : st_eachReachesOne objs 0 so = false := by
  cases ht : st_eachReachesOne objs 0 so with
  | false => rfl
  | true =>
    unfold st_eachReachesOne at ht
    rw [H.1] at ht
    have h := eachR_none H mo.1 0 (by omega) ht
    refine absurd ?_ hne
    apply yx_ext
    intro i _
    rw [yx_0]
    by_cases hi : i < mo.1
    · exact h i (Nat.zero_le _) hi
    · exact hin i (by omega)
theorem eachR_empty (H : OBJ so mo) : ∀ (k i : Nat), i + k = mo.1 → st_eachReachesOne_L3 0 goals so k i = true
  | 0, i, _ => rfl
  | k + 1, i, h => by
    have h60 := H.2.1
    rw [st_eachReachesOne_L3]
    simp only [yb]
    rw [px_isIn_nI (by omega), yx_0, if_neg (by decide)]
    exact eachR_empty H k (i + 1) (by omega)
/-- the commits of a set, as the reference gathers them -/
theorem conv_L23 (H : OBJ so mo) {mn : MN} {mt : MT} {known set : Int64} : ∀ (k i : Nat) (acc : Int64), i + k = mo.1 → md_converse_L23 wants mo mn mt k i known (set &&& acc) set = md_converse_L69 wants mo mn 60 0 known (set &&& st_allOfKind_L5 2 so k i acc) mt
  | 0, i, acc, _ => rfl
  | k + 1, i, acc, h => by
    rw [md_converse_L23, st_allOfKind_L5, H.2.2.1]
    by_cases hk : mo.2.1 i = 2
    · rw [if_pos hk, if_pos hk, ← conv_L23 H k (i + 1) _ (by omega)]
      have e : (set &&& acc) ||| (set &&& ylshl 1 (nI i)) = set &&& (acc ||| ylshl 1 (nI i)) := by
        apply yx_ext
        intro q _
        simp only [yx_or, yx_and]
        cases yx set q <;> cases yx acc q <;> rfl
      rw [e]
    · rw [if_neg hk, if_neg hk, ← conv_L23 H k (i + 1) _ (by omega)]
end OB
end
section
/-! counting -/
theorem ycnt_or {a b : Int64} : ∀ n : Nat, (∀ i, i < n → yx a i = true → yx b i = false) → ycnt (a ||| b) n = ycnt a n + ycnt b n
  | 0, _ => rfl
  | i + 1, h => by
    rw [ycnt, ycnt, ycnt, ycnt_or i (fun j hj => h j (by omega)), yx_or]
    by_cases ha : yx a i = true
    · have hb := h i (by omega) ha
      rw [if_pos (show (yx a i || yx b i) = true by rw [ha]; rfl), if_pos ha, if_neg (show ¬ yx b i = true by rw [hb]; decide)]
      omega
    · have ha' := (Bool.not_eq_true _).mp ha
      rw [ha', Bool.false_or, if_neg (show ¬ false = true by decide)]
      omega
theorem ycnt_none {a : Int64} : ∀ n : Nat, (∀ i, i < n → yx a i = false) → ycnt a n = 0
  | 0, _ => rfl
  | i + 1, h => by
    rw [ycnt, ycnt_none i (fun j hj => h j (by omega)), if_neg (show ¬ yx a i = true by rw [h i (by omega)]; decide)]
theorem ycnt_1 {x : Nat} : ∀ n : Nat, n ≤ 64 → x < n → ycnt (ylshl 1 (nI x)) n = 1
  | 0, _, h => absurd h (by omega)
  | i + 1, hn, h => by
    rw [ycnt, yx_1 (by omega)]
    by_cases hx : x = i
    · subst hx
      rw [ycnt_none x (fun j hj => by rw [yx_1 (by omega)]; exact decide_eq_false (by omega)), if_pos (decide_eq_true rfl)]
    · rw [if_neg (show ¬ decide (x = i) = true by rw [decide_eq_false hx]; decide), ycnt_1 i (by omega) (by omega)]
theorem ycnt_more {a : Int64} {n : Nat} (h : yin a n) : ∀ k : Nat, ycnt a (n + k) = ycnt a n
  | 0 => rfl
  | k + 1 => by
    rw [show n + (k + 1) = (n + k) + 1 by omega, ycnt, ycnt_more h k, if_neg (show ¬ yx a (n + k) = true by rw [h _ (by omega)]; decide), Nat.add_zero]
/-! the same on natural numbers, byte by byte -/
def nct (x : Nat) : Nat → Nat
  | 0 => 0
  | i + 1 => nct x i + (if x.testBit i = true then 1 else 0)
theorem ycnt_nct (x : Int64) : ∀ n : Nat, ycnt x n = nct x.toBitVec.toNat n
  | 0 => rfl
  | i + 1 => by
    rw [ycnt, nct, ycnt_nct x i]
    rfl
theorem nct_le (x : Nat) : ∀ n : Nat, nct x n ≤ n
  | 0 => Nat.le_refl _
  | i + 1 => by
    have := nct_le x i
    rw [nct]
    split <;> omega
theorem nct_lo {q r : Nat} (hr : r < 256) : ∀ n : Nat, n ≤ 8 → nct (256 * q + r) n = nct r n
  | 0, _ => rfl
  | i + 1, h => by
    rw [nct, nct, nct_lo hr i (by omega)]
    have e : (256 * q + r).testBit i = r.testBit i := by
      have t := Nat.testBit_two_pow_mul_add q (b := r) (i := 8) hr i
      rw [if_pos (show i < 8 by omega)] at t
      exact t
    rw [e]
theorem nct_hi {q r : Nat} (hr : r < 256) : ∀ n : Nat, nct (256 * q + r) (8 + n) = nct r 8 + nct q n
  | 0 => nct_lo hr 8 (Nat.le_refl _)
  | n + 1 => by
    rw [show 8 + (n + 1) = (8 + n) + 1 by omega, nct, nct_hi hr n, show nct q (n + 1) = nct q n + (if q.testBit n = true then 1 else 0) from rfl]
    have e : (256 * q + r).testBit (8 + n) = q.testBit n := by
      have t := Nat.testBit_two_pow_mul_add q (b := r) (i := 8) hr (8 + n)
      rw [if_neg (show ¬ 8 + n < 8 by omega), show 8 + n - 8 = n by omega] at t
      exact t
    rw [e]
    omega
def pS1 (m x : Nat) : Nat := x - ((x / 2) &&& m)
def pS2 (m x : Nat) : Nat := (x &&& m) + ((x / 4) &&& m)
def pS3 (m x : Nat) : Nat := (x + x / 16) &&& m
theorem pk1 : ∀ r, r < 256 → ∀ t, t < 2 → (128 * t + r / 2) &&& 85 = (r / 2) &&& 85 := by decide +kernel
theorem pk2 : ∀ r, r < 256 → ∀ t, t < 4 → (64 * t + r / 4) &&& 51 = (r / 4) &&& 51 := by decide +kernel
theorem pkt : ∀ r, r < 256 → pS1 85 r < 256 ∧ pS2 51 (pS1 85 r) ≤ 68 ∧ pS2 51 (pS1 85 r) % 16 ≤ 4 ∧ (pS2 51 (pS1 85 r) + pS2 51 (pS1 85 r) / 16) % 16 = nct r 8 := by decide +kernel
theorem pS1_s {M q r : Nat} (hr : r < 256) : pS1 (256 * M + 85) (256 * q + r) = 256 * pS1 M q + pS1 85 r := by
  unfold pS1
  have e : (256 * q + r) / 2 = 256 * (q / 2) + (128 * (q % 2) + r / 2) := by omega
  have h1 : 128 * (q % 2) + r / 2 < 256 := by omega
  rw [e, pc_and h1 (show (85 : Nat) < 256 by decide), pk1 r hr (q % 2) (by omega)]
  have h2 : (q / 2) &&& M ≤ q / 2 := Nat.and_le_left
  have h3 : (r / 2) &&& 85 ≤ r / 2 := Nat.and_le_left
  omega
theorem pS2_s {M q r : Nat} (hr : r < 256) : pS2 (256 * M + 51) (256 * q + r) = 256 * pS2 M q + pS2 51 r := by
  unfold pS2
  have e : (256 * q + r) / 4 = 256 * (q / 4) + (64 * (q % 4) + r / 4) := by omega
  have h1 : 64 * (q % 4) + r / 4 < 256 := by omega
  rw [e, pc_and h1 (show (51 : Nat) < 256 by decide), pc_and hr (show (51 : Nat) < 256 by decide), pk2 r hr (q % 4) (by omega)]
  omega
theorem pS3_s {M q r : Nat} (hr : r ≤ 68) (hq : q % 16 ≤ 4) : pS3 (256 * M + 15) (256 * q + r) = 256 * pS3 M q + (r + r / 16) % 16 := by
  unfold pS3
  have e : 256 * q + r + (256 * q + r) / 16 = 256 * (q + q / 16) + (r + r / 16 + 16 * (q % 16)) := by omega
  have h1 : r + r / 16 + 16 * (q % 16) < 256 := by omega
  have e2 : (r + r / 16 + 16 * (q % 16)) &&& 15 = (r + r / 16 + 16 * (q % 16)) % 16 := Nat.and_two_pow_sub_one_eq_mod _ 4
  rw [e, pc_and h1 (show (15 : Nat) < 256 by decide), e2]
  omega
def pV (k x : Nat) : Nat := pS2 (pcm 51 k) (pS1 (pcm 85 k) x)
theorem pV_0 (x : Nat) : pV 0 x = 0 := by
  unfold pV pS2
  rw [show pcm 51 0 = 0 from rfl, Nat.and_zero, Nat.and_zero]
theorem pV_s {k q r : Nat} (hr : r < 256) : pV (k + 1) (256 * q + r) = 256 * pV k q + pS2 51 (pS1 85 r) := by
  unfold pV
  rw [show pcm 51 (k + 1) = 256 * pcm 51 k + 51 from rfl, show pcm 85 (k + 1) = 256 * pcm 85 k + 85 from rfl, pS1_s hr, pS2_s (pkt r hr).1]
theorem pV_m : ∀ (k x : Nat), pV k x % 16 ≤ 4
  | 0, x => by
    rw [pV_0]
    decide
  | k + 1, x => by
    have hr : x % 256 < 256 := Nat.mod_lt _ (by decide)
    have t := pV_s (k := k) (q := x / 256) hr
    rw [show 256 * (x / 256) + x % 256 = x from Nat.div_add_mod x 256] at t
    have h := (pkt (x % 256) hr).2.2.1
    omega
def pB : Nat → Nat → Nat
  | 0, _ => 0
  | k + 1, x => 256 * pB k (x / 256) + nct (x % 256) 8
def pC : Nat → Nat → Nat
  | 0, _ => 0
  | k + 1, x => nct (x % 256) 8 + pC k (x / 256)
theorem pB_eq : ∀ (k x : Nat), pS3 (pcm 15 k) (pV k x) = pB k x
  | 0, x => by
    unfold pS3
    rw [show pcm 15 0 = 0 from rfl, Nat.and_zero]
    rfl
  | k + 1, x => by
    have hr : x % 256 < 256 := Nat.mod_lt _ (by decide)
    have t := pV_s (k := k) (q := x / 256) hr
    rw [show 256 * (x / 256) + x % 256 = x from Nat.div_add_mod x 256] at t
    rw [t, show pcm 15 (k + 1) = 256 * pcm 15 k + 15 from rfl, pS3_s (pkt _ hr).2.1 (pV_m k _), pB_eq k, (pkt _ hr).2.2.2]
    rfl
theorem pC_eq : ∀ (k x : Nat), nct x (8 * k) = pC k x
  | 0, x => rfl
  | k + 1, x => by
    have hr : x % 256 < 256 := Nat.mod_lt _ (by decide)
    have t := nct_hi (q := x / 256) hr (8 * k)
    rw [show 256 * (x / 256) + x % 256 = x from Nat.div_add_mod x 256] at t
    rw [show 8 * (k + 1) = 8 + 8 * k by omega, t, pC_eq k]
    rfl
theorem pBC (x : Nat) : ∃ a b c d e f g h : Nat, (a ≤ 8 ∧ b ≤ 8 ∧ c ≤ 8 ∧ d ≤ 8 ∧ e ≤ 8 ∧ f ≤ 8 ∧ g ≤ 8 ∧ h ≤ 8) ∧ pB 8 x = a + 256 * b + 65536 * c + 16777216 * d + 4294967296 * e + 1099511627776 * f + 281474976710656 * g + 72057594037927936 * h ∧ pC 8 x = a + b + c + d + e + f + g + h := by
  refine ⟨nct (x % 256) 8, nct (x / 256 % 256) 8, nct (x / 256 / 256 % 256) 8, nct (x / 256 / 256 / 256 % 256) 8, nct (x / 256 / 256 / 256 / 256 % 256) 8, nct (x / 256 / 256 / 256 / 256 / 256 % 256) 8, nct (x / 256 / 256 / 256 / 256 / 256 / 256 % 256) 8, nct (x / 256 / 256 / 256 / 256 / 256 / 256 / 256 % 256) 8, ⟨nct_le _ _, nct_le _ _, nct_le _ _, nct_le _ _, nct_le _ _, nct_le _ _, nct_le _ _, nct_le _ _⟩, ?_, ?_⟩
  · simp only [pB]
    omega
  · simp only [pC]
    omega
theorem pDv {a X m : Nat} (h : a < m) : (a + m * X) / m = X := by
  rw [Nat.add_mul_div_left _ _ (Nat.lt_of_le_of_lt (Nat.zero_le _) h), Nat.div_eq_of_lt h, Nat.zero_add]
theorem pEnd {a b c d e f g h v : Nat} (hh : a ≤ 8 ∧ b ≤ 8 ∧ c ≤ 8 ∧ d ≤ 8 ∧ e ≤ 8 ∧ f ≤ 8 ∧ g ≤ 8 ∧ h ≤ 8) (hv : v = a + 256 * b + 65536 * c + 16777216 * d + 4294967296 * e + 1099511627776 * f + 281474976710656 * g + 72057594037927936 * h) :
    ∀ w, w = v + v / 256 → w < 18446744073709551616 ∧ ∀ u, u = w + w / 65536 → u < 18446744073709551616 ∧ ∀ z, z = u + u / 4294967296 → z < 18446744073709551616 ∧ z % 128 = a + b + c + d + e + f + g + h := by
  intro w hw
  have e1 : v / 256 = b + 256 * c + 65536 * d + 16777216 * e + 4294967296 * f + 1099511627776 * g + 281474976710656 * h := by
    have t : v = a + 256 * (b + 256 * c + 65536 * d + 16777216 * e + 4294967296 * f + 1099511627776 * g + 281474976710656 * h) := by omega
    rw [t]
    exact pDv (by omega)
  rw [e1, hv] at hw
  have e2 : w = (a + b) + 256 * (b + c) + 65536 * (c + d) + 16777216 * (d + e) + 4294967296 * (e + f) + 1099511627776 * (f + g) + 281474976710656 * (g + h) + 72057594037927936 * h := by omega
  clear e1 hv hw
  refine ⟨by omega, ?_⟩
  intro u hu
  have e3 : w / 65536 = (c + d) + 256 * (d + e) + 65536 * (e + f) + 16777216 * (f + g) + 4294967296 * (g + h) + 1099511627776 * h := by
    have t : w = ((a + b) + 256 * (b + c)) + 65536 * ((c + d) + 256 * (d + e) + 65536 * (e + f) + 16777216 * (f + g) + 4294967296 * (g + h) + 1099511627776 * h) := by omega
    rw [t]
    exact pDv (by omega)
  rw [e3, e2] at hu
  have e4 : u = (a + b + c + d) + 256 * (b + c + d + e) + 65536 * (c + d + e + f) + 16777216 * (d + e + f + g) + 4294967296 * (e + f + g + h) + 1099511627776 * (f + g + h) + 281474976710656 * (g + h) + 72057594037927936 * h := by omega
  clear e2 e3 hu
  refine ⟨by omega, ?_⟩
  intro z hz
  have e5 : u / 4294967296 = (e + f + g + h) + 256 * (f + g + h) + 65536 * (g + h) + 16777216 * h := by
    have t : u = ((a + b + c + d) + 256 * (b + c + d + e) + 65536 * (c + d + e + f) + 16777216 * (d + e + f + g)) + 4294967296 * ((e + f + g + h) + 256 * (f + g + h) + 65536 * (g + h) + 16777216 * h) := by omega
    rw [t]
    exact pDv (by omega)
  rw [e5, e4] at hz
  clear e4 e5
  refine ⟨by omega, ?_⟩
  have e6 : z = (a + b + c + d + e + f + g + h) + 128 * (2 * ((b + c + d + e) + 256 * (c + d + e + f) + 65536 * (d + e + f + g) + 16777216 * (e + f + g + h) + 4294967296 * (f + g + h) + 1099511627776 * (g + h) + 281474976710656 * h) + 2 * ((f + g + h) + 256 * (g + h) + 65536 * h)) := by omega
  rw [e6, Nat.add_mul_mod_self_left]
  exact Nat.mod_eq_of_lt (by omega)
/-! the same on longs -/
def toN (x : Int64) : Nat := x.toBitVec.toNat
theorem toN_lt (x : Int64) : toN x < 2 ^ 64 := x.toBitVec.isLt
theorem toN_and (x y : Int64) : toN (x &&& y) = toN x &&& toN y := BitVec.toNat_and _ _
theorem toN_add {x y : Int64} (h : toN x + toN y < 2 ^ 64) : toN (x + y) = toN x + toN y := by
  show (x.toBitVec + y.toBitVec).toNat = _
  rw [BitVec.toNat_add]
  exact Nat.mod_eq_of_lt h
theorem toN_sub {x y : Int64} (h : toN y ≤ toN x) : toN (x - y) = toN x - toN y := by
  show (x.toBitVec - y.toBitVec).toNat = _
  exact BitVec.toNat_sub_of_le h
theorem toN_ush (x : Int64) (c : Int32) (s : Nat) (h : ((c.toInt64.toUInt64 &&& Int64.toUInt64 63).toBitVec % 64).toNat = s) : toN (ylushr x c) = toN x / 2 ^ s := by
  show (x.toBitVec >>> ((c.toInt64.toUInt64 &&& Int64.toUInt64 63).toBitVec % 64)).toNat = _
  rw [BitVec.ushiftRight_eq', h, BitVec.toNat_ushiftRight, Nat.shiftRight_eq_div_pow]
  rfl
theorem jl_bitCount_eq (x : Int64) : jl_bitCount x = nI (ycnt x 64) := by
  have c5 : toN 6148914691236517205 = pcm 85 8 := by decide +kernel
  have c3 : toN 3689348814741910323 = pcm 51 8 := by decide +kernel
  have cf : toN 1085102592571150095 = pcm 15 8 := by decide +kernel
  have hx := toN_lt x
  have u1 : toN (ylushr x 1) = toN x / 2 := toN_ush x 1 1 (by decide +kernel)
  have a1 : toN (ylushr x 1 &&& 6148914691236517205) = (toN x / 2) &&& pcm 85 8 := by rw [toN_and, u1, c5]
  have l1 : (toN x / 2) &&& pcm 85 8 ≤ toN x / 2 := Nat.and_le_left
  have v1 : toN (x - (ylushr x 1 &&& 6148914691236517205)) = pS1 (pcm 85 8) (toN x) := by
    rw [toN_sub (by rw [a1]; omega), a1]
    rfl
  unfold jl_bitCount
  simp only [yb]
  generalize x - (ylushr x 1 &&& 6148914691236517205) = y1 at v1 ⊢
  have hb1 := toN_lt y1
  have u2 : toN (ylushr y1 2) = toN y1 / 4 := toN_ush y1 2 2 (by decide +kernel)
  have m1 : toN y1 &&& pcm 51 8 ≤ pcm 51 8 := Nat.and_le_right
  have m2 : (toN y1 / 4) &&& pcm 51 8 ≤ pcm 51 8 := Nat.and_le_right
  have m3 : pcm 51 8 = 3689348814741910323 := by decide +kernel
  have v2 : toN ((y1 &&& 3689348814741910323) + (ylushr y1 2 &&& 3689348814741910323)) = pV 8 (toN x) := by
    rw [toN_add (by rw [toN_and, toN_and, u2, c3]; omega), toN_and, toN_and, u2, c3, v1]
    rfl
  generalize (y1 &&& 3689348814741910323) + (ylushr y1 2 &&& 3689348814741910323) = y2 at v2 ⊢
  have u3 : toN (ylushr y2 4) = toN y2 / 16 := toN_ush y2 4 4 (by decide +kernel)
  have hb2 : toN y2 ≤ 2 * 3689348814741910323 := by
    rw [v2]
    unfold pV pS2
    have n1 : pS1 (pcm 85 8) (toN x) &&& pcm 51 8 ≤ pcm 51 8 := Nat.and_le_right
    have n2 : (pS1 (pcm 85 8) (toN x) / 4) &&& pcm 51 8 ≤ pcm 51 8 := Nat.and_le_right
    omega
  have v3 : toN ((y2 + ylushr y2 4) &&& 1085102592571150095) = pB 8 (toN x) := by
    rw [toN_and, toN_add (by rw [u3]; omega), u3, cf, v2]
    exact pB_eq 8 (toN x)
  generalize (y2 + ylushr y2 4) &&& 1085102592571150095 = y3 at v3 ⊢
  obtain ⟨a, b, c, d, e, f, g, h, hh, eB, eC⟩ := pBC (toN x)
  obtain ⟨k1, k⟩ := pEnd hh (v3.trans eB) _ rfl
  have u4 : toN (ylushr y3 8) = toN y3 / 256 := toN_ush y3 8 8 (by decide +kernel)
  have v4 : toN (y3 + ylushr y3 8) = toN y3 + toN y3 / 256 := by
    rw [toN_add (by rw [u4]; exact k1), u4]
  clear k1 k
  obtain ⟨-, k⟩ := pEnd hh (v3.trans eB) _ v4
  generalize y3 + ylushr y3 8 = y4 at k ⊢
  obtain ⟨k1, -⟩ := k _ rfl
  have u5 : toN (ylushr y4 16) = toN y4 / 65536 := toN_ush y4 16 16 (by decide +kernel)
  have v5 : toN (y4 + ylushr y4 16) = toN y4 + toN y4 / 65536 := by
    rw [toN_add (by rw [u5]; exact k1), u5]
  obtain ⟨-, k⟩ := k _ v5
  clear k1
  generalize y4 + ylushr y4 16 = y5 at k ⊢
  obtain ⟨k1, -⟩ := k _ rfl
  have u6 : toN (ylushr y5 32) = toN y5 / 4294967296 := toN_ush y5 32 32 (by decide +kernel)
  have v6 : toN (y5 + ylushr y5 32) = toN y5 + toN y5 / 4294967296 := by
    rw [toN_add (by rw [u6]; exact k1), u6]
  obtain ⟨-, k4⟩ := k _ v6
  clear k1 k
  generalize y5 + ylushr y5 32 = y6 at k4 ⊢
  have hc : ycnt x 64 = a + b + c + d + e + f + g + h := by
    rw [ycnt_nct, ← eC]
    exact pC_eq 8 (toN x)
  rw [hc, ← k4]
  apply Int32.toBitVec_inj.1
  apply BitVec.eq_of_toNat_eq
  show (y6.toBitVec.signExtend 32 &&& (127#32)).toNat = (BitVec.ofNat 32 (toN y6 % 128)).toNat
  rw [BitVec.toNat_and, BitVec.signExtend_eq_setWidth_of_le _ (by decide), BitVec.toNat_setWidth]
  have e7 : (y6.toBitVec.toNat % 2 ^ 32) &&& 127 = (y6.toBitVec.toNat % 2 ^ 32) % 128 := Nat.and_two_pow_sub_one_eq_mod _ 7
  show (y6.toBitVec.toNat % 2 ^ 32) &&& 127 = (y6.toBitVec.toNat % 128) % 2 ^ 32
  rw [e7]
  omega
theorem jl_many {x : Int64} (h : yin x 60) : jl_bitCount x = nI (ycnt x 60) := by
  rw [jl_bitCount_eq]
  have t := ycnt_more h 4
  rw [t]
theorem jl_md {x : Int64} (h : yin x 60) : jl_bitCount x = md_many x := by
  rw [jl_many h, md_many_eq]
end
section
/-! a node of the class and the same of the reference -/
theorem pv_m2 : ∀ v, v < 102 → ¬ nI v - 1 = -2 := by decide +kernel
theorem pv_m1 : ∀ v, v < 102 → (nI v - 1 = -1 ↔ v = 0) := by decide +kernel
theorem pv_0 : ∀ v, v < 102 → (nI v - 1 = 0 ↔ v = 1) := by decide +kernel
theorem pv_le : ∀ v, v < 102 → (nI v - 1 ≤ 0 ↔ v ≤ 1) := by decide +kernel
theorem pv_lt : ∀ v, v < 102 → (nI v - 1 < 0 ↔ v = 0) := by decide +kernel
theorem pw_1 : ∀ v, v < 102 → (nI v = 1 ↔ v = 1) := by decide +kernel
theorem pw_0 : ∀ v, v < 102 → (nI v = 0 ↔ v = 0) := by decide +kernel
theorem pw_le : ∀ v, v < 102 → (nI v ≤ 0 ↔ v = 0) := by decide +kernel
theorem pv_inj {v w : Nat} (hv : v < 102) (hw : w < 102) : nI v - 1 = nI w - 1 ↔ v = w := by
  constructor
  · intro h
    cases v with
    | zero =>
      by_cases h0 : w = 0
      · exact h0.symm
      · exact absurd ((pv_m1 w hw).mp (h.symm.trans ((pv_m1 0 hv).mpr rfl))) h0
    | succ a =>
      cases w with
      | zero => exact absurd ((pv_m1 _ hv).mp (h.trans ((pv_m1 0 hw).mpr rfl))) (by omega)
      | succ b =>
        rw [nI_pred, nI_pred] at h
        have := (nI_eq (by omega) (by omega)).mp h
        omega
  · intro h
    rw [h]
theorem upd_at (f : Nat → Int32) (k : Nat) (x : Int32) : upd f k x k = x := by simp [upd]
theorem upd_ne (f : Nat → Int32) {k j : Nat} (x : Int32) (h : j ≠ k) : upd f k x j = f j := by simp [upd, h]
theorem updL_at (f : Nat → Int64) (k : Nat) (x : Int64) : vp_updL f k x k = x := by simp [vp_updL]
theorem updL_ne (f : Nat → Int64) {k j : Nat} (x : Int64) (h : j ≠ k) : vp_updL f k x j = f j := by simp [vp_updL, h]
theorem yupB_at (f : Nat → Bool) (k : Nat) (x : Bool) : yupB f k x k = x := by simp [yupB]
theorem yupB_ne (f : Nat → Bool) {k j : Nat} (x : Bool) (h : j ≠ k) : yupB f k x j = f j := by simp [yupB, h]
theorem yupN_at (f : Nat → Nat) (k : Nat) (x : Nat) : yupN f k x k = x := by simp [yupN]
theorem yupN_ne (f : Nat → Nat) {k j : Nat} (x : Nat) (h : j ≠ k) : yupN f k x j = f j := by simp [yupN, h]
/-- references -/
def RV (va rf : Nat → Int32) (k n : Nat) : Prop := ∀ r, r < 8 → ∃ v, v ≤ n ∧ rf (8 * k + r) = nI v ∧ va r = nI v - 1
/-- power -/
def RP (pw : Bool) (wl : Int32) (dk : Nat → Bool) (fz : Nat → Int32) (k : Nat) : Prop := pw = !dk k ∧ ∃ f, f ≤ 101 ∧ fz k = nI f ∧ wl = nI f - 1
/-- a row of new values and the reference's list of them: the first r references, m of them named -/
def ylP (lg : Nat → Int32) (rf : Nat → Nat) (vl : Nat → Int32) (b n : Nat) : Nat → Nat → Prop
  | 0, m => m = 0
  | r + 1, m => (lg r = -2 ∧ ylP lg rf vl b n r m) ∨ (∃ m' v, m = m' + 1 ∧ v ≤ n ∧ rf (b + m') % 8 = r ∧ vl (b + m') = nI v ∧ lg r = nI v - 1 ∧ ylP lg rf vl b n r m')
/-- the same from r on -/
def ylR (lg : Nat → Int32) (rf : Nat → Nat) (vl : Nat → Int32) (b n M : Nat) : Nat → Nat → Nat → Prop
  | 0, _, j => j = M
  | k + 1, r, j => (lg r = -2 ∧ ylR lg rf vl b n M k (r + 1) j) ∨ (∃ v, v ≤ n ∧ rf (b + j) % 8 = r ∧ vl (b + j) = nI v ∧ lg r = nI v - 1 ∧ ylR lg rf vl b n M k (r + 1) (j + 1))
section LL
variable {lg lg' : Nat → Int32} {rf rf' : Nat → Nat} {vl vl' : Nat → Int32} {b n M : Nat}
theorem ylR_le : ∀ (k r j : Nat), ylR lg rf vl b n M k r j → j ≤ M
  | 0, r, j, h => by
    rw [ylR] at h
    omega
  | k + 1, r, j, h => by
    rw [ylR] at h
    rcases h with ⟨_, h⟩ | ⟨v, _, _, _, _, h⟩
    · exact ylR_le k (r + 1) j h
    · have := ylR_le k (r + 1) (j + 1) h
      omega
theorem ylP_LR : ∀ (k r : Nat), ylP lg rf vl b n (r + k) M → ∃ j, ylP lg rf vl b n r j ∧ ylR lg rf vl b n M k r j
  | 0, r, h => ⟨M, h, by rw [ylR]⟩
  | k + 1, r, h => by
    have h' : ylP lg rf vl b n ((r + 1) + k) M := by
      rw [show r + 1 + k = r + (k + 1) by omega]
      exact h
    obtain ⟨j', hp, hr⟩ := ylP_LR k (r + 1) h'
    rw [ylP] at hp
    rcases hp with ⟨e, hp⟩ | ⟨m', v, e, hv, h1, h2, h3, hp⟩
    · refine ⟨j', hp, ?_⟩
      rw [ylR]
      exact Or.inl ⟨e, hr⟩
    · subst e
      refine ⟨m', hp, ?_⟩
      rw [ylR]
      exact Or.inr ⟨v, hv, h1, h2, h3, hr⟩
theorem ylP_all (h : ylP lg rf vl b n 8 M) : ylR lg rf vl b n M 8 0 0 := by
  obtain ⟨j, h1, h2⟩ := ylP_LR 8 0 h
  rw [ylP] at h1
  subst h1
  exact h2
theorem ylP_nil : ∀ r : Nat, (∀ i, i < r → lg i = -2) → ylP lg rf vl b n r 0
  | 0, _ => by rw [ylP]
  | r + 1, h => by
    rw [ylP]
    exact Or.inl ⟨h r (by omega), ylP_nil r (fun i hi => h i (by omega))⟩
theorem ylP_nil' : ∀ r : Nat, ylP lg rf vl b n r 0 → ∀ i, i < r → lg i = -2
  | 0, _ => fun i hi => absurd hi (by omega)
  | r + 1, h => by
    rw [ylP] at h
    rcases h with ⟨e, h⟩ | ⟨m', v, e, _⟩
    · intro i hi
      rcases Nat.lt_or_eq_of_le (Nat.le_of_lt_succ hi) with h1 | h1
      · exact ylP_nil' r h i h1
      · subst h1
        exact e
    · exact absurd e (by omega)
theorem ylP_pad {r m : Nat} (h : ylP lg rf vl b n r m) : ∀ k : Nat, (∀ i, r ≤ i → i < r + k → lg i = -2) → ylP lg rf vl b n (r + k) m
  | 0, _ => h
  | k + 1, hk => by
    show ylP lg rf vl b n ((r + k) + 1) m
    rw [ylP]
    exact Or.inl ⟨hk (r + k) (by omega) (by omega), ylP_pad h k (fun i h1 h2 => hk i h1 (by omega))⟩
theorem ylP_congr : ∀ (r m : Nat), (∀ i, i < r → lg' i = lg i) → (∀ j, j < m → rf' (b + j) % 8 = rf (b + j) % 8 ∧ vl' (b + j) = vl (b + j)) → ylP lg rf vl b n r m → ylP lg' rf' vl' b n r m
  | 0, m, _, _, h => by
    rw [ylP] at h ⊢
    exact h
  | r + 1, m, h1, h2, h => by
    rw [ylP] at h ⊢
    rcases h with ⟨e, h⟩ | ⟨m', v, e, hv, e1, e2, e3, h⟩
    · exact Or.inl ⟨(h1 r (by omega)).trans e, ylP_congr r m (fun i hi => h1 i (by omega)) h2 h⟩
    · subst e
      exact Or.inr ⟨m', v, rfl, hv, (h2 m' (by omega)).1.trans e1, (h2 m' (by omega)).2.trans e2, (h1 r (by omega)).trans e3, ylP_congr r m' (fun i hi => h1 i (by omega)) (fun j hj => h2 j (by omega)) h⟩
theorem ylP_mono {n' : Nat} (hn : n ≤ n') : ∀ (r m : Nat), ylP lg rf vl b n r m → ylP lg rf vl b n' r m
  | 0, m, h => by
    rw [ylP] at h ⊢
    exact h
  | r + 1, m, h => by
    rw [ylP] at h ⊢
    rcases h with ⟨e, h⟩ | ⟨m', v, e, hv, e1, e2, e3, h⟩
    · exact Or.inl ⟨e, ylP_mono hn r m h⟩
    · exact Or.inr ⟨m', v, e, by omega, e1, e2, e3, ylP_mono hn r m' h⟩
end LL
theorem clr_at : ∀ (k i : Nat) (tg : Nat → Int32) (j : Nat), (i ≤ j ∧ j < i + k) ∨ tg j = -2 → px_clearTargets_L2 k i tg j = -2
  | 0, i, tg, j, h => by
    rw [px_clearTargets_L2]
    rcases h with h | h
    · omega
    · exact h
  | k + 1, i, tg, j, h => by
    rw [px_clearTargets_L2]
    refine clr_at k (i + 1) _ j ?_
    by_cases hj : j = i
    · right
      rw [hj, upd_at]
    · rcases h with h | h
      · left
        omega
      · right
        rw [upd_ne _ _ hj]
        exact h
theorem clr_8 (tg : Nat → Int32) (j : Nat) (h : j < 8) : px_clearTargets tg j = -2 := clr_at 8 0 tg j (Or.inl ⟨Nat.zero_le _, by omega⟩)
theorem empty_L {va : Nat → Int32} {he : Int64} {pw : Bool} {wl : Int32} {se : Bool} {no : Int32} : ∀ (k i : Nat) (lg : Nat → Int32), nd_emptyLog_L11 k i (va, lg, no, se, he, pw, wl) = (true, va, px_clearTargets_L2 k i lg, 0, false, he, pw, wl)
  | 0, i, lg => rfl
  | k + 1, i, lg => by
    rw [nd_emptyLog_L11, px_clearTargets_L2]
    exact empty_L k (i + 1) _
section WW
variable {va lg : Nat → Int32} {no : Int32} {se : Bool} {he : Int64} {pw : Bool} {wl : Int32} {h : Nat → Int64} {rf : Nat → Int32} {dk : Nat → Bool} {fz : Nat → Int32} {nt : Nat → Nat} {sl : Nat → Bool} {nr : Nat → Nat} {nv : Nat → Int32} {k n : Nat}
theorem w_write (H : RP pw wl dk fz k) : ∃ b pw' wl' dk' fz', nd_write (va, lg, no, se, he, pw, wl) = (b, va, lg, no, se, he, pw', wl') ∧ md_write k (h, rf, dk, fz, nt, sl, nr, nv) = (b, h, rf, dk', fz', nt, sl, nr, nv) ∧ RP pw' wl' dk' fz' k ∧ (∀ q, q ≠ k → dk' q = dk q ∧ fz' q = fz q) ∧ (b = true → pw' = pw) ∧ (b = false → pw' = false) := by
  obtain ⟨hp, f, hf, e1, e2⟩ := H
  subst e2
  by_cases h1 : f = 1
  · subst h1
    refine ⟨false, false, -1, yupB dk k true, upd fz k 0, ?_, ?_, ⟨?_, 0, by omega, upd_at _ _ _, by decide +kernel⟩, ?_, ?_, ?_⟩
    · rw [nd_write]
      dsimp only
      rw [if_pos (show nI 1 - 1 = 0 by decide +kernel)]
    · rw [md_write]
      dsimp only
      rw [if_pos (show fz k = 1 by rw [e1]; decide +kernel)]
    · rw [yupB_at]
      rfl
    · intro q hq
      exact ⟨yupB_ne _ _ hq, upd_ne _ _ hq⟩
    · intro hb
      cases hb
    · intro _
      rfl
  · have g1 : ¬ nI f - 1 = 0 := fun hh => h1 ((pv_0 f (by omega)).mp hh)
    have g2 : ¬ fz k = 1 := fun hh => h1 ((pw_1 f (by omega)).mp (e1.symm.trans hh))
    by_cases h0 : f = 0
    · subst h0
      refine ⟨true, pw, nI 0 - 1, dk, upd fz k 0, ?_, ?_, ⟨hp, 0, by omega, upd_at _ _ _, rfl⟩, ?_, fun _ => rfl, ?_⟩
      · rw [nd_write]
        dsimp only
        rw [if_neg g1, if_pos (show nI 0 - 1 ≤ 0 by decide +kernel)]
      · rw [md_write]
        dsimp only
        rw [if_neg g2, if_pos (show fz k ≤ 0 by rw [e1]; decide +kernel)]
      · intro q hq
        exact ⟨rfl, upd_ne _ _ hq⟩
      · intro hb
        cases hb
    · obtain ⟨g, rfl⟩ : ∃ g, f = g + 1 := ⟨f - 1, by omega⟩
      refine ⟨true, pw, nI (g + 1) - 1 - 1, dk, upd fz k (fz k - 1), ?_, ?_, ⟨hp, g, by omega, ?_, ?_⟩, ?_, fun _ => rfl, ?_⟩
      · rw [nd_write]
        dsimp only
        rw [if_neg g1, if_neg (show ¬ nI (g + 1) - 1 ≤ 0 from fun hh => absurd ((pv_le _ (by omega)).mp hh) (by omega))]
      · rw [md_write]
        dsimp only
        rw [if_neg g2, if_neg (show ¬ fz k ≤ 0 from fun hh => by rw [e1] at hh; exact absurd ((pw_le _ (by omega)).mp hh) (by omega))]
      · rw [upd_at, e1, nI_pred]
      · rw [nI_pred]
      · intro q hq
        exact ⟨rfl, upd_ne _ _ hq⟩
      · intro hb
        cases hb
/-- what the end of a log leaves -/
def PO (k : Nat) (b pw : Bool) (lg : Nat → Int32) (no : Int32) (se : Bool) (nt : Nat → Nat) (sl : Nat → Bool) (pw' : Bool) (lg' : Nat → Int32) (no' : Int32) (se' : Bool) (nt' : Nat → Nat) (sl' : Nat → Bool) : Prop := (b = true → pw' = pw ∧ (∀ i, i < 8 → lg' i = -2) ∧ no' = 0 ∧ se' = false ∧ nt' k = 0 ∧ sl' k = false) ∧ (b = false → pw' = false ∧ lg' = lg ∧ no' = no ∧ se' = se ∧ nt' = nt ∧ sl' = sl)
theorem w_wipe (H : RP pw wl dk fz k) : ∃ b lg' no' se' pw' wl' dk' fz' nt' sl', nd_emptyLog (va, lg, no, se, he, pw, wl) = (b, va, lg', no', se', he, pw', wl') ∧ md_wipe k (h, rf, dk, fz, nt, sl, nr, nv) = (b, h, rf, dk', fz', nt', sl', nr, nv) ∧ RP pw' wl' dk' fz' k ∧ (∀ q, q ≠ k → dk' q = dk q ∧ fz' q = fz q ∧ nt' q = nt q ∧ sl' q = sl q) ∧ PO k b pw lg no se nt sl pw' lg' no' se' nt' sl' := by
  obtain ⟨b, pw', wl', dk', fz', e1, e2, hR, hq, ht, hf⟩ := w_write (va := va) (lg := lg) (no := no) (se := se) (he := he) (h := h) (rf := rf) (nt := nt) (sl := sl) (nr := nr) (nv := nv) H
  cases b with
  | true =>
    refine ⟨true, px_clearTargets_L2 8 0 lg, 0, false, pw', wl', dk', fz', yupN nt k 0, yupB sl k false, ?_, ?_, hR, ?_, ?_, ?_⟩
    · rw [nd_emptyLog]
      simp only [yb, e1]
      rw [if_pos trivial]
      exact empty_L 8 0 lg
    · rw [md_wipe]
      simp only [yb, e2]
      rw [if_pos trivial]
    · intro q h1
      exact ⟨(hq q h1).1, (hq q h1).2, yupN_ne _ _ h1, yupB_ne _ _ h1⟩
    · intro _
      exact ⟨ht rfl, fun i hi => clr_8 lg i hi, rfl, rfl, yupN_at _ _ _, yupB_at _ _ _⟩
    · intro hb
      cases hb
  | false =>
    refine ⟨false, lg, no, se, pw', wl', dk', fz', nt, sl, ?_, ?_, hR, ?_, ?_, ?_⟩
    · rw [nd_emptyLog]
      simp only [yb, e1]
      rw [if_neg (by decide)]
    · rw [md_wipe]
      simp only [yb, e2]
      rw [if_neg (by decide)]
    · intro q h1
      exact ⟨(hq q h1).1, (hq q h1).2, rfl, rfl⟩
    · intro hb
      cases hb
    · intro _
      exact ⟨hf rfl, rfl, rfl, rfl, rfl, rfl⟩
theorem w_carry {M : Nat} (hn : n ≤ 60) (hM : M ≤ 4) : ∀ (kk r j : Nat), r + kk = 8 → ylR lg nr nv (4 * k) n M kk r j → ∀ (va rf : Nat → Int32) (pw : Bool) (wl : Int32) (dk : Nat → Bool) (fz : Nat → Int32), RV va rf k n → RP pw wl dk fz k →
    ∃ b va' lg' no' se' pw' wl' rf' dk' fz' nt' sl', nd_carryOutLog_L2 kk r (va, lg, no, se, he, pw, wl) = (b, va', lg', no', se', he, pw', wl') ∧ md_replay_L2 k (M - j) j (h, rf, dk, fz, nt, sl, nr, nv) = (b, h, rf', dk', fz', nt', sl', nr, nv) ∧ RV va' rf' k n ∧ RP pw' wl' dk' fz' k ∧ (∀ q, q ≠ k → dk' q = dk q ∧ fz' q = fz q ∧ nt' q = nt q ∧ sl' q = sl q) ∧ (∀ i, i < 8 * k ∨ 8 * k + 8 ≤ i → rf' i = rf i) ∧ PO k b pw lg no se nt sl pw' lg' no' se' nt' sl'
  | 0, r, j, hr, hL, va, rf, pw, wl, dk, fz, hV, hP => by
    rw [ylR] at hL
    obtain ⟨b, lg', no', se', pw', wl', dk', fz', nt', sl', e1, e2, hR, hq, hO⟩ := w_wipe (va := va) (lg := lg) (no := no) (se := se) (he := he) (h := h) (rf := rf) (nt := nt) (sl := sl) (nr := nr) (nv := nv) hP
    refine ⟨b, va, lg', no', se', pw', wl', rf, dk', fz', nt', sl', ?_, ?_, hV, hR, hq, fun _ _ => rfl, hO⟩
    · rw [nd_carryOutLog_L2]
      simp only [yb, e1]
    · rw [hL, Nat.sub_self, md_replay_L2]
      simp only [yb, e2]
  | kk + 1, r, j, hr, hL, va, rf, pw, wl, dk, fz, hV, hP => by
    rw [ylR] at hL
    rcases hL with ⟨e, hL⟩ | ⟨v, hv, e1, e2, e3, hL⟩
    · obtain ⟨b, va', lg', no', se', pw', wl', rf', dk', fz', nt', sl', a1, a2, rest⟩ := w_carry hn hM kk (r + 1) j (by omega) hL va rf pw wl dk fz hV hP
      refine ⟨b, va', lg', no', se', pw', wl', rf', dk', fz', nt', sl', ?_, a2, rest⟩
      rw [nd_carryOutLog_L2]
      dsimp only
      rw [if_pos e]
      exact a1
    · have hle := ylR_le _ _ _ hL
      have hne : ¬ lg r = -2 := by
        rw [e3]
        exact pv_m2 v (by omega)
      obtain ⟨b, pw1, wl1, dk1, fz1, c1, c2, hR, hq, ht, hf⟩ := w_write (va := va) (lg := lg) (no := no) (se := se) (he := he) (h := h) (rf := rf) (nt := nt) (sl := sl) (nr := nr) (nv := nv) hP
      have eM : M - j = (M - (j + 1)) + 1 := by omega
      cases b with
      | false =>
        refine ⟨false, va, lg, no, se, pw1, wl1, rf, dk1, fz1, nt, sl, ?_, ?_, hV, hR, fun q h1 => ⟨(hq q h1).1, (hq q h1).2, rfl, rfl⟩, fun _ _ => rfl, fun hb => (by cases hb), fun _ => ⟨hf rfl, rfl, rfl, rfl, rfl, rfl⟩⟩
        · rw [nd_carryOutLog_L2]
          dsimp only
          rw [if_neg hne]
          simp only [yb, c1]
          rw [if_neg (by decide)]
        · rw [eM, md_replay_L2]
          simp only [yb, c2]
          rw [if_neg (by decide)]
      | true =>
        have hV1 : RV (upd va r (lg r)) (upd rf (8 * k + r) (nv (4 * k + j))) k n := by
          intro r' h'
          by_cases hr' : r' = r
          · subst hr'
            exact ⟨v, hv, by rw [upd_at, e2], by rw [upd_at, e3]⟩
          · obtain ⟨u, hu, a1, a2⟩ := hV r' h'
            exact ⟨u, hu, by rw [upd_ne _ _ (by omega)]; exact a1, by rw [upd_ne _ _ hr']; exact a2⟩
        obtain ⟨b, va', lg', no', se', pw', wl', rf', dk', fz', nt', sl', a1, a2, b1, b2, b3, b4, b5⟩ := w_carry hn hM kk (r + 1) (j + 1) (by omega) hL (upd va r (lg r)) (upd rf (8 * k + r) (nv (4 * k + j))) pw1 wl1 dk1 fz1 hV1 hR
        refine ⟨b, va', lg', no', se', pw', wl', rf', dk', fz', nt', sl', ?_, ?_, b1, b2, ?_, ?_, ?_⟩
        · rw [nd_carryOutLog_L2]
          dsimp only
          rw [if_neg hne]
          simp only [yb, c1]
          rw [if_pos trivial]
          exact a1
        · rw [eM, md_replay_L2]
          simp only [yb, c2]
          rw [if_pos trivial, e1]
          exact a2
        · intro q h1
          obtain ⟨x1, x2, x3, x4⟩ := b3 q h1
          exact ⟨x1.trans (hq q h1).1, x2.trans (hq q h1).2, x3, x4⟩
        · intro i hi
          rw [b4 i hi, upd_ne _ _ (by omega)]
        · rw [ht rfl] at b5
          exact b5
/-- the end of a transaction: power, log, seal -/
def PE (k n : Nat) (b pw : Bool) (pw' : Bool) (lg' : Nat → Int32) (no' : Int32) (se' : Bool) (nt' : Nat → Nat) (sl' : Nat → Bool) (nr' : Nat → Nat) (nv' : Nat → Int32) : Prop := (∃ m, m ≤ 4 ∧ nt' k % 5 = m ∧ no' = nI m ∧ ylP lg' nr' nv' (4 * k) n 8 m) ∧ se' = sl' k ∧ (b = true → pw' = pw ∧ no' = 0 ∧ se' = false) ∧ (b = false → pw' = false)
theorem PO_PE {b : Bool} {m : Nat} {pw' : Bool} {lg' : Nat → Int32} {no' : Int32} {se' : Bool} {nt' : Nat → Nat} {sl' : Nat → Bool} (hm : m ≤ 4) (e1 : nt k % 5 = m) (e2 : no = nI m) (hL : ylP lg nr nv (4 * k) n 8 m) (e3 : se = sl k) (H : PO k b pw lg no se nt sl pw' lg' no' se' nt' sl') : PE k n b pw pw' lg' no' se' nt' sl' nr nv := by
  cases b with
  | true =>
    obtain ⟨a1, a2, a3, a4, a5, a6⟩ := H.1 rfl
    exact ⟨⟨0, by omega, by rw [a5], a3, ylP_nil 8 a2⟩, a4.trans a6.symm, fun _ => ⟨a1, a3, a4⟩, fun hb => (by cases hb)⟩
  | false =>
    obtain ⟨a1, a2, a3, a4, a5, a6⟩ := H.2 rfl
    subst a2
    subst a3
    subst a4
    subst a5
    subst a6
    exact ⟨⟨m, hm, e1, e2, hL⟩, e3, fun hb => (by cases hb), fun _ => a1⟩
end WW
theorem w_transact {va : Nat → Int32} {he : Int64} {h : Nat → Int64} {k n W : Nat} {tg : Nat → Int32} {wr : Nat → Nat} {wv : Nat → Int32} {rf : Nat → Int32} {se : Bool} {sl : Nat → Bool} (hn : n ≤ 60) (hW : W ≤ 4) (hV : RV va rf k n) (hse : se = false) (hsl : sl k = false) : ∀ (kk r j mm : Nat), r + kk = 8 → mm ≤ j → ylR tg wr wv 0 n W kk r j → ∀ (lg : Nat → Int32) (pw : Bool) (wl : Int32) (dk : Nat → Bool) (fz : Nat → Int32) (nt nr : Nat → Nat) (nv : Nat → Int32), RP pw wl dk fz k → ylP lg nr nv (4 * k) n r mm → (∀ i, r ≤ i → i < 8 → lg i = -2) → nt k % 5 = mm →
    ∃ b va' lg' no' se' pw' wl' rf' dk' fz' nt' sl' nr' nv', nd_transact_L2 tg kk r (va, lg, nI mm, se, he, pw, wl) = (b, va', lg', no', se', he, pw', wl') ∧ md_transact_L4 k (W, wr, wv) (W - j) j mm (h, rf, dk, fz, nt, sl, nr, nv) = (b, h, rf', dk', fz', nt', sl', nr', nv') ∧ RV va' rf' k n ∧ RP pw' wl' dk' fz' k ∧ (∀ q, q ≠ k → dk' q = dk q ∧ fz' q = fz q ∧ nt' q = nt q ∧ sl' q = sl q) ∧ (∀ i, i < 8 * k ∨ 8 * k + 8 ≤ i → rf' i = rf i) ∧ (∀ i, i < 4 * k ∨ 4 * k + 4 ≤ i → nr' i = nr i ∧ nv' i = nv i) ∧ PE k n b pw pw' lg' no' se' nt' sl' nr' nv'
  | 0, r, j, mm, hr, hmj, hT, lg, pw, wl, dk, fz, nt, nr, nv, hP, hL, hl2, hnt => by
    have er : r = 8 := by omega
    subst er
    rw [ylR] at hT
    have hm4 : mm ≤ 4 := by omega
    by_cases h0 : mm = 0
    · subst h0
      refine ⟨true, va, lg, nI 0, se, pw, wl, rf, dk, fz, nt, sl, nr, nv, ?_, ?_, hV, hP, fun _ _ => ⟨rfl, rfl, rfl, rfl⟩, fun _ _ => rfl, fun _ _ => ⟨rfl, rfl⟩, ⟨0, by omega, hnt, rfl, hL⟩, hse.trans hsl.symm, fun _ => ⟨rfl, rfl, hse⟩, fun hb => (by cases hb)⟩
      · rw [nd_transact_L2]
        dsimp only
        rw [if_pos (show nI 0 = 0 from rfl)]
      · rw [hT, Nat.sub_self, md_transact_L4]
        rw [if_pos (show nI 0 = 0 from rfl)]
    · have hne : ¬ nI mm = 0 := fun hh => h0 ((pw_0 mm (by omega)).mp hh)
      obtain ⟨b, pw1, wl1, dk1, fz1, c1, c2, hR, hq, ht, hf⟩ := w_write (va := va) (lg := lg) (no := nI mm) (se := se) (he := he) (h := h) (rf := rf) (nt := nt) (sl := sl) (nr := nr) (nv := nv) hP
      cases b with
      | false =>
        refine ⟨false, va, lg, nI mm, se, pw1, wl1, rf, dk1, fz1, nt, sl, nr, nv, ?_, ?_, hV, hR, fun q h1 => ⟨(hq q h1).1, (hq q h1).2, rfl, rfl⟩, fun _ _ => rfl, fun _ _ => ⟨rfl, rfl⟩, ⟨mm, hm4, hnt, rfl, hL⟩, hse.trans hsl.symm, fun hb => (by cases hb), hf⟩
        · rw [nd_transact_L2]
          dsimp only
          rw [if_neg hne]
          simp only [yb, c1]
          rw [if_neg (by decide)]
        · rw [hT, Nat.sub_self, md_transact_L4, if_neg hne]
          simp only [yb, c2]
          rw [if_neg (by decide)]
      | true =>
        obtain ⟨b, va', lg', no', se', pw', wl', rf', dk', fz', nt', sl', a1, a2, b1, b2, b3, b4, b5⟩ := w_carry (he := he) (h := h) (no := nI mm) (se := true) (nt := nt) (sl := yupB sl k true) hn hm4 8 0 0 (by omega) (ylP_all hL) va rf pw1 wl1 dk1 fz1 hV hR
        refine ⟨b, va', lg', no', se', pw', wl', rf', dk', fz', nt', sl', nr, nv, ?_, ?_, b1, b2, ?_, b4, fun _ _ => ⟨rfl, rfl⟩, ?_⟩
        · rw [nd_transact_L2]
          dsimp only
          rw [if_neg hne]
          simp only [yb, c1]
          rw [if_pos trivial, nd_carryOutLog, a1]
        · rw [hT, Nat.sub_self, md_transact_L4, if_neg hne]
          simp only [yb, c2]
          rw [if_pos trivial, md_replay]
          dsimp only
          rw [hnt]
          rw [Nat.sub_zero] at a2
          rw [a2]
        · intro q h1
          obtain ⟨x1, x2, x3, x4⟩ := b3 q h1
          exact ⟨x1.trans (hq q h1).1, x2.trans (hq q h1).2, x3, x4.trans (yupB_ne _ _ h1)⟩
        · have t := PO_PE (nr := nr) (nv := nv) hm4 hnt rfl hL (show true = yupB sl k true k from (yupB_at _ _ _).symm) b5
          rw [ht rfl] at t
          exact t
  | kk + 1, r, j, mm, hr, hmj, hT, lg, pw, wl, dk, fz, nt, nr, nv, hP, hL, hl2, hnt => by
    rw [ylR] at hT
    have hL1 : ylP lg nr nv (4 * k) n (r + 1) mm := by
      rw [ylP]
      exact Or.inl ⟨hl2 r (by omega) (by omega), hL⟩
    have hL8 : ylP lg nr nv (4 * k) n 8 mm := by
      have t := ylP_pad hL (kk + 1) (fun i h1 h2 => hl2 i h1 (by omega))
      rw [hr] at t
      exact t
    rcases hT with ⟨e, hT⟩ | ⟨v, hv, e1, e2, e3, hT⟩
    · obtain ⟨b, va', lg', no', se', pw', wl', rf', dk', fz', nt', sl', nr', nv', a1, a2, rest⟩ := w_transact (he := he) (h := h) hn hW hV hse hsl kk (r + 1) j mm (by omega) hmj hT lg pw wl dk fz nt nr nv hP hL1 (fun i h1 h2 => hl2 i (by omega) h2) hnt
      refine ⟨b, va', lg', no', se', pw', wl', rf', dk', fz', nt', sl', nr', nv', ?_, a2, rest⟩
      rw [nd_transact_L2, if_pos e]
      exact a1
    · have hle := ylR_le _ _ _ hT
      rw [Nat.zero_add] at e1 e2
      have hne : ¬ tg r = -2 := by
        rw [e3]
        exact pv_m2 v (by omega)
      have eW : W - j = (W - (j + 1)) + 1 := by omega
      obtain ⟨u, hu, u1, u2⟩ := hV r (by omega)
      have hm4 : mm + 1 ≤ 4 := by omega
      by_cases huv : u = v
      · obtain ⟨b, va', lg', no', se', pw', wl', rf', dk', fz', nt', sl', nr', nv', a1, a2, rest⟩ := w_transact (he := he) (h := h) hn hW hV hse hsl kk (r + 1) (j + 1) mm (by omega) (by omega) hT lg pw wl dk fz nt nr nv hP hL1 (fun i h1 h2 => hl2 i (by omega) h2) hnt
        refine ⟨b, va', lg', no', se', pw', wl', rf', dk', fz', nt', sl', nr', nv', ?_, ?_, rest⟩
        · rw [nd_transact_L2, if_neg hne]
          dsimp only
          rw [if_pos (show tg r = va r by rw [e3, u2, huv])]
          exact a1
        · rw [eW, md_transact_L4]
          dsimp only
          rw [if_pos (show rf (8 * k + wr j % 8) = wv j by rw [e1, u1, e2, huv])]
          exact a2
      · have n1 : ¬ tg r = va r := by
          rw [e3, u2]
          exact fun hh => huv ((pv_inj (by omega) (by omega)).mp hh).symm
        have n2 : ¬ rf (8 * k + wr j % 8) = wv j := by
          rw [e1, u1, e2]
          exact fun hh => huv ((nI_eq (by omega) (by omega)).mp hh)
        obtain ⟨b, pw1, wl1, dk1, fz1, c1, c2, hR, hq, ht, hf⟩ := w_write (va := va) (lg := lg) (no := nI mm) (se := se) (he := he) (h := h) (rf := rf) (nt := nt) (sl := sl) (nr := nr) (nv := nv) hP
        cases b with
        | false =>
          refine ⟨false, va, lg, nI mm, se, pw1, wl1, rf, dk1, fz1, nt, sl, nr, nv, ?_, ?_, hV, hR, fun q h1 => ⟨(hq q h1).1, (hq q h1).2, rfl, rfl⟩, fun _ _ => rfl, fun _ _ => ⟨rfl, rfl⟩, ⟨mm, by omega, hnt, rfl, hL8⟩, hse.trans hsl.symm, fun hb => (by cases hb), hf⟩
          · rw [nd_transact_L2, if_neg hne]
            dsimp only
            rw [if_neg n1]
            simp only [yb, c1]
            rw [if_neg (by decide)]
          · rw [eW, md_transact_L4]
            dsimp only
            rw [if_neg n2]
            simp only [yb, c2]
            rw [if_neg (by decide)]
        | true =>
          have hL2 : ylP (upd lg r (tg r)) (yupN nr (4 * k + mm) (wr j % 8)) (upd nv (4 * k + mm) (wv j)) (4 * k) n (r + 1) (mm + 1) := by
            rw [ylP]
            refine Or.inr ⟨mm, v, rfl, hv, ?_, ?_, ?_, ?_⟩
            · rw [yupN_at]
              omega
            · rw [upd_at, e2]
            · rw [upd_at, e3]
            · refine ylP_congr r mm (fun i hi => upd_ne _ _ (by omega)) (fun q hq' => ⟨?_, upd_ne _ _ (by omega)⟩) hL
              rw [yupN_ne _ _ (by omega)]
          obtain ⟨b, va', lg', no', se', pw', wl', rf', dk', fz', nt', sl', nr', nv', a1, a2, b1, b2, b3, b4, b6, b5⟩ := w_transact (he := he) (h := h) hn hW hV hse hsl kk (r + 1) (j + 1) (mm + 1) (by omega) (by omega) hT (upd lg r (tg r)) pw1 wl1 dk1 fz1 (yupN nt k (mm + 1)) (yupN nr (4 * k + mm) (wr j % 8)) (upd nv (4 * k + mm) (wv j)) hR hL2 (fun i h1 h2 => by rw [upd_ne _ _ (by omega)]; exact hl2 i (by omega) h2) (by rw [yupN_at]; omega)
          refine ⟨b, va', lg', no', se', pw', wl', rf', dk', fz', nt', sl', nr', nv', ?_, ?_, b1, b2, ?_, b4, ?_, ?_⟩
          · rw [nd_transact_L2, if_neg hne]
            dsimp only
            rw [if_neg n1]
            simp only [yb, c1]
            rw [if_pos trivial, nI_1]
            exact a1
          · rw [eW, md_transact_L4]
            dsimp only
            rw [if_neg n2]
            simp only [yb, c2]
            rw [if_pos trivial]
            exact a2
          · intro q h1
            obtain ⟨x1, x2, x3, x4⟩ := b3 q h1
            exact ⟨x1.trans (hq q h1).1, x2.trans (hq q h1).2, x3.trans (yupN_ne _ _ h1), x4⟩
          · intro i hi
            obtain ⟨x1, x2⟩ := b6 i hi
            exact ⟨x1.trans (yupN_ne _ _ (by omega)), x2.trans (upd_ne _ _ (by omega))⟩
          · rw [ht rfl] at b5
            exact b5
end
section
/-! steps of one node -/
def NOD (nd : NS) (mn : MN) (k n : Nat) : Prop := RV nd.1 mn.2.1 k n ∧ RP nd.2.2.2.2.2.1 nd.2.2.2.2.2.2 mn.2.2.1 mn.2.2.2.1 k ∧ (∃ m, m ≤ 4 ∧ mn.2.2.2.2.1 k % 5 = m ∧ nd.2.2.1 = nI m ∧ ylP nd.2.1 mn.2.2.2.2.2.2.1 mn.2.2.2.2.2.2.2 (4 * k) n 8 m) ∧ nd.2.2.2.1 = mn.2.2.2.2.2.1 k ∧ nd.2.2.2.2.1 = mn.1 k ∧ yin (mn.1 k) n
def UPK (nd : NS) : Prop := nd.2.2.2.2.2.1 = true → nd.2.2.1 = 0 ∧ nd.2.2.2.1 = false
def AGR (a b : MN) (q : Nat) : Prop := b.1 q = a.1 q ∧ (∀ r, r < 8 → b.2.1 (8 * q + r) = a.2.1 (8 * q + r)) ∧ b.2.2.1 q = a.2.2.1 q ∧ b.2.2.2.1 q = a.2.2.2.1 q ∧ b.2.2.2.2.1 q = a.2.2.2.2.1 q ∧ b.2.2.2.2.2.1 q = a.2.2.2.2.2.1 q ∧ (∀ j, j < 4 → b.2.2.2.2.2.2.1 (4 * q + j) = a.2.2.2.2.2.2.1 (4 * q + j) ∧ b.2.2.2.2.2.2.2 (4 * q + j) = a.2.2.2.2.2.2.2 (4 * q + j))
theorem AGR_refl (a : MN) (q : Nat) : AGR a a q := ⟨rfl, fun _ _ => rfl, rfl, rfl, rfl, rfl, fun _ _ => ⟨rfl, rfl⟩⟩
theorem AGR_trans {a b c : MN} {q : Nat} (A : AGR a b q) (B : AGR b c q) : AGR a c q := by
  obtain ⟨a1, a2, a3, a4, a5, a6, a7⟩ := A
  obtain ⟨b1, b2, b3, b4, b5, b6, b7⟩ := B
  exact ⟨b1.trans a1, fun r hr => (b2 r hr).trans (a2 r hr), b3.trans a3, b4.trans a4, b5.trans a5, b6.trans a6, fun j hj => ⟨(b7 j hj).1.trans (a7 j hj).1, (b7 j hj).2.trans (a7 j hj).2⟩⟩
theorem NOD_agr {nd : NS} {a b : MN} {q n : Nat} (A : AGR a b q) (H : NOD nd a q n) : NOD nd b q n := by
  obtain ⟨hV, ⟨hp, f, hf, e1, e2⟩, ⟨m, hm, e3, e4, hL⟩, e5, e6, hi⟩ := H
  obtain ⟨a1, a2, a3, a4, a5, a6, a7⟩ := A
  refine ⟨fun r hr => ?_, ⟨by rw [a3]; exact hp, f, hf, a4.trans e1, e2⟩, ⟨m, hm, by rw [a5]; exact e3, e4, ylP_congr 8 m (fun _ _ => rfl) (fun j hj => ⟨by rw [(a7 j (by omega)).1], (a7 j (by omega)).2⟩) hL⟩, by rw [a6]; exact e5, by rw [a1]; exact e6, by rw [a1]; exact hi⟩
  obtain ⟨v, hv, v1, v2⟩ := hV r hr
  exact ⟨v, hv, (a2 r hr).trans v1, v2⟩
theorem NOD_mono {nd : NS} {mn : MN} {q n n' : Nat} (hn : n ≤ n') (H : NOD nd mn q n) : NOD nd mn q n' := by
  obtain ⟨hV, hP, ⟨m, hm, e3, e4, hL⟩, e5, e6, hi⟩ := H
  refine ⟨fun r hr => ?_, hP, ⟨m, hm, e3, e4, ylP_mono hn 8 m hL⟩, e5, e6, yin_mono hi hn⟩
  obtain ⟨v, hv, v1, v2⟩ := hV r hr
  exact ⟨v, by omega, v1, v2⟩
/-- a step of node k: the same answer, the nodes alike after it, the others untouched -/
def STP (k n : Nat) (x : Bool × NS) (y : Bool × MN) (mn : MN) : Prop := x.1 = y.1 ∧ NOD x.2 y.2 k n ∧ UPK x.2 ∧ (∀ q, q ≠ k → AGR mn y.2 q) ∧ (x.1 = true → x.2.2.2.2.2.2.1 = true)
theorem n_transact {nd : NS} {mn : MN} {mw : MW} {tg : Nat → Int32} {k n : Nat} (hn : n ≤ 60) (H : NOD nd mn k n) (U : UPK nd) (hu : nd.2.2.2.2.2.1 = true) (hW : mw.1 ≤ 4) (hT : ylP tg mw.2.1 mw.2.2 0 n 8 mw.1) : STP k n (nd_transact nd tg) (md_transact k mn mw) mn := by
  obtain ⟨va, lg, no, se, he, pw, wl⟩ := nd
  obtain ⟨h, rf, dk, fz, nt, sl, nr, nv⟩ := mn
  obtain ⟨W, wr, wv⟩ := mw
  obtain ⟨hV, hP, ⟨m, hm, e3, e4, hL⟩, e5, e6, hi⟩ := H
  have hV : RV va rf k n := hV
  have hP : RP pw wl dk fz k := hP
  have hu : pw = true := hu
  have e3 : nt k % 5 = m := e3
  have e4 : no = nI m := e4
  have hL : ylP lg nr nv (4 * k) n 8 m := hL
  have e5 : se = sl k := e5
  have e6 : he = h k := e6
  have hi : yin (h k) n := hi
  have hW : W ≤ 4 := hW
  have hT : ylP tg wr wv 0 n 8 W := hT
  obtain ⟨u1, u2⟩ : no = 0 ∧ se = false := U hu
  have hm0 : m = 0 := (pw_0 m (by omega)).mp (e4.symm.trans u1)
  subst hm0
  subst e4
  have hl2 := ylP_nil' 8 hL
  obtain ⟨b, va', lg', no', se', pw', wl', rf', dk', fz', nt', sl', nr', nv', a1, a2, b1, b2, b3, b4, b6, ⟨⟨m', hm', c1, c2, c3⟩, c4, c5, c6⟩⟩ := w_transact (he := he) (h := h) hn hW hV u2 (e5.symm.trans u2) 8 0 0 0 (by omega) (Nat.le_refl _) (ylP_all hT) lg pw wl dk fz nt nr nv hP (by rw [ylP]) (fun i _ h2 => hl2 i h2) e3
  rw [Nat.sub_zero] at a2
  rw [STP, nd_transact, a1, md_transact]
  dsimp only
  rw [a2]
  refine ⟨rfl, ⟨b1, b2, ⟨m', hm', c1, c2, c3⟩, c4, e6, hi⟩, ?_, ?_, ?_⟩
  · intro hp'
    cases b with
    | true => exact ⟨(c5 rfl).2.1, (c5 rfl).2.2⟩
    | false =>
      have hp' : pw' = true := hp'
      rw [c6 rfl] at hp'
      cases hp'
  · intro q hq
    obtain ⟨x1, x2, x3, x4⟩ := b3 q hq
    refine ⟨rfl, fun r hr => b4 _ (by omega), x1, x2, x3, x4, fun j hj => b6 _ (by omega)⟩
  · intro hb
    have hb : b = true := hb
    exact ((c5 hb).1).trans hu
theorem md_has_nI {k i : Nat} {mo : MO} {mn : MN} (h : i < mo.1) (ho : mo.1 ≤ 60) : md_has k (nI i) mo mn = yx (mn.1 k) i := by
  unfold md_has
  rw [if_neg (nI_pos (by omega)), if_neg (nI_ge h (by omega))]
  cases hx : yx (mn.1 k) i with
  | true => rw [if_pos ((yx_shr_1 _ (by omega)).mpr hx)]
  | false =>
    rw [if_neg (fun hh => by rw [(yx_shr_1 _ (by omega)).mp hh] at hx; cases hx)]
theorem keep_nI {nd : NS} {i : Nat} (h : i < 60) : nd_keep (nI i) nd = (nd.1, nd.2.1, nd.2.2.1, nd.2.2.2.1, nd.2.2.2.2.1 ||| (ylshl 1 (nI i)), nd.2.2.2.2.2.1, nd.2.2.2.2.2.2) := by
  unfold nd_keep
  rw [if_neg (nI_pos (by omega)), if_neg (show ¬ (60 : Int32) ≤ nI i from nI_ge (b := 60) h (by decide))]
theorem missing_skip {mis : Int64} {nd : NS} : ∀ (f i : Nat), i + f ≤ 60 → (∀ j, i ≤ j → yx mis j = false) → nd_writeMissing_L14 f i mis nd = (true, nd)
  | 0, i, _, _ => rfl
  | f + 1, i, h, hz => by
    rw [nd_writeMissing_L14]
    simp only [yb]
    rw [px_isIn_nI (by omega), hz i (Nat.le_refl _), if_neg (by decide)]
    exact missing_skip f (i + 1) (by omega) (fun j hj => hz j (by omega))
theorem w_store {va lg : Nat → Int32} {no : Int32} {se : Bool} {rf : Nat → Int32} {nt : Nat → Nat} {sl : Nat → Bool} {nr : Nat → Nat} {nv : Nat → Int32} {k : Nat} {mo : MO} {mis set : Int64} (ho : mo.1 ≤ 60) (hs : yin set mo.1) : ∀ (kk i : Nat), i + kk = mo.1 → ∀ (he : Int64) (h : Nat → Int64) (pw : Bool) (wl : Int32) (dk : Nat → Bool) (fz : Nat → Int32), he = h k → yin he mo.1 → RP pw wl dk fz k → (∀ j, i ≤ j → yx mis j = (yx set j && !yx he j)) →
    ∃ b he' h' pw' wl' dk' fz', nd_writeMissing_L14 (60 - i) i mis (va, lg, no, se, he, pw, wl) = (b, va, lg, no, se, he', pw', wl') ∧ md_store_L3 k set mo kk i (h, rf, dk, fz, nt, sl, nr, nv) = (b, h', rf, dk', fz', nt, sl, nr, nv) ∧ he' = h' k ∧ yin he' mo.1 ∧ RP pw' wl' dk' fz' k ∧ (∀ q, q ≠ k → h' q = h q ∧ dk' q = dk q ∧ fz' q = fz q) ∧ (b = true → pw' = pw) ∧ (b = false → pw' = false)
  | 0, i, hi, he, h, pw, wl, dk, fz, e, hin, hP, hm => by
    refine ⟨true, he, h, pw, wl, dk, fz, ?_, rfl, e, hin, hP, fun _ _ => ⟨rfl, rfl, rfl⟩, fun _ => rfl, fun hb => (by cases hb)⟩
    refine missing_skip (60 - i) i (by omega) (fun j hj => ?_)
    rw [hm j hj, hs j (by omega)]
    rfl
  | kk + 1, i, hi, he, h, pw, wl, dk, fz, e, hin, hP, hm => by
    have e60 : 60 - i = (60 - (i + 1)) + 1 := by omega
    have hmi := hm i (Nat.le_refl _)
    have hm' : ∀ j, i + 1 ≤ j → yx mis j = (yx set j && !yx he j) := fun j hj => hm j (by omega)
    rw [e60, nd_writeMissing_L14, md_store_L3]
    simp only [yb]
    rw [px_isIn_nI (by omega), hmi, md_has_nI (by omega) ho]
    dsimp only
    by_cases hset : yx set i = true
    · rw [if_pos ((yx_shr_1 set (by omega)).mpr hset)]
      by_cases hhe : yx he i = true
      · rw [if_neg (show ¬ (yx set i && !yx he i) = true by rw [hset, hhe]; decide), if_pos (show yx (h k) i = true by rw [← e]; exact hhe)]
        exact w_store ho hs kk (i + 1) (by omega) he h pw wl dk fz e hin hP hm'
      · have hhe' := (Bool.not_eq_true _).mp hhe
        rw [if_pos (show (yx set i && !yx he i) = true by rw [hset, hhe']; rfl), if_neg (show ¬ yx (h k) i = true by rw [← e]; exact hhe)]
        obtain ⟨b, pw1, wl1, dk1, fz1, c1, c2, hR, hq, ht, hf⟩ := w_write (va := va) (lg := lg) (no := no) (se := se) (he := he) (h := h) (rf := rf) (nt := nt) (sl := sl) (nr := nr) (nv := nv) hP
        rw [c1, c2]
        cases b with
        | false =>
          dsimp only
          rw [if_neg (show ¬ false = true by decide), if_neg (show ¬ false = true by decide)]
          exact ⟨false, he, h, pw1, wl1, dk1, fz1, rfl, rfl, e, hin, hR, fun q h1 => ⟨rfl, (hq q h1).1, (hq q h1).2⟩, fun hb => (by cases hb), hf⟩
        | true =>
          dsimp only
          rw [if_pos rfl, if_pos rfl, keep_nI (by omega)]
          dsimp only
          rw [← e]
          obtain ⟨b, he', h', pw', wl', dk', fz', a1, a2, a3, a4, a5, a6, a7, a8⟩ := w_store (va := va) (lg := lg) (no := no) (se := se) (rf := rf) (nt := nt) (sl := sl) (nr := nr) (nv := nv) (mis := mis) (set := set) ho hs kk (i + 1) (by omega) (he ||| ylshl 1 (nI i)) (vp_updL h k (he ||| ylshl 1 (nI i))) pw1 wl1 dk1 fz1 (updL_at _ _ _).symm (yin_or hin (yin_1 (by omega) (by omega))) hR (fun j hj => by
            rw [hm' j hj, yx_or, yx_1 (by omega), decide_eq_false (show ¬ i = j by omega), Bool.or_false])
          refine ⟨b, he', h', pw', wl', dk', fz', a1, a2, a3, a4, a5, fun q h1 => ?_, fun hb => (a7 hb).trans (ht rfl), a8⟩
          obtain ⟨x1, x2, x3⟩ := a6 q h1
          exact ⟨x1.trans (updL_ne _ _ h1), x2.trans (hq q h1).1, x3.trans (hq q h1).2⟩
    · have hset' := (Bool.not_eq_true _).mp hset
      rw [if_neg (fun hh => hset ((yx_shr_1 set (by omega)).mp hh)), if_neg (show ¬ (yx set i && !yx he i) = true by rw [hset', Bool.false_and]; decide)]
      exact w_store ho hs kk (i + 1) (by omega) he h pw wl dk fz e hin hP hm'
theorem n_store {nd : NS} {mn : MN} {mo : MO} {k : Nat} {set : Int64} (ho : mo.1 ≤ 60) (hs : yin set mo.1) (H : NOD nd mn k mo.1) (U : UPK nd) (hu : nd.2.2.2.2.2.1 = true) : STP k mo.1 (nd_writeMissing set nd) (md_store k set mo mn) mn ∧ (∀ i, (md_store k set mo mn).2.2.1 i = mn.2.1 i) := by
  obtain ⟨va, lg, no, se, he, pw, wl⟩ := nd
  obtain ⟨h, rf, dk, fz, nt, sl, nr, nv⟩ := mn
  obtain ⟨hV, hP, hL, e5, e6, hi⟩ := H
  have hP : RP pw wl dk fz k := hP
  have hu : pw = true := hu
  have e6 : he = h k := e6
  have hi : yin he mo.1 := by rw [e6]; exact hi
  obtain ⟨b, he', h', pw', wl', dk', fz', a1, a2, a3, a4, a5, a6, a7, a8⟩ := w_store (va := va) (lg := lg) (no := no) (se := se) (rf := rf) (nt := nt) (sl := sl) (nr := nr) (nv := nv) (mis := set &&& (he ^^^ (-1))) (set := set) ho hs mo.1 0 (by omega) he h pw wl dk fz e6 hi hP (fun j _ => by
    by_cases hj : j < 64
    · rw [yx_and, yx_not _ hj]
    · rw [yx_and, hs j (by omega)]
      rfl)
  rw [STP, nd_writeMissing, md_store]
  dsimp only
  rw [show (60 : Nat) - 0 = 60 from rfl] at a1
  rw [a1, a2]
  refine ⟨⟨rfl, ⟨hV, a5, hL, e5, a3, ?_⟩, ?_, ?_, ?_⟩, fun _ => rfl⟩
  · show yin (h' k) mo.1
    rw [← a3]
    exact a4
  · intro hp'
    cases b with
    | true => exact U hu
    | false =>
      have hp' : pw' = true := hp'
      rw [a8 rfl] at hp'
      cases hp'
  · intro q hq
    obtain ⟨x1, x2, x3⟩ := a6 q hq
    exact ⟨x1, fun _ _ => rfl, x2, x3, rfl, rfl, fun _ _ => ⟨rfl, rfl⟩⟩
  · intro hb
    exact (a7 hb).trans hu
/-- recover -/
theorem n_recover {nd : NS} {mn : MN} {k n : Nat} (hn : n ≤ 60) (H : NOD nd mn k n) (hd : nd.2.2.2.2.2.1 = false) :
    ∃ (x : Int32) (nd' : NS) (mn' : MN), nd_restore nd = (x, nd') ∧ (if mn.2.2.2.2.2.1 k = true then (yb (md_replay k mn) fun r13 => (if r13.1 = true then ((nI (mn.2.2.2.2.1 k % 5)), (r13.2.1, r13.2.2.1, yupB r13.2.2.2.1 k false, r13.2.2.2.2.1, r13.2.2.2.2.2.1, r13.2.2.2.2.2.2.1, r13.2.2.2.2.2.2.2.1, r13.2.2.2.2.2.2.2.2)) else ((-2), r13.2))) else (if (nI (mn.2.2.2.2.1 k % 5)) = 0 then (0, (mn.1, mn.2.1, yupB mn.2.2.1 k false, mn.2.2.2.1, mn.2.2.2.2.1, mn.2.2.2.2.2.1, mn.2.2.2.2.2.2.1, mn.2.2.2.2.2.2.2)) else (yb (md_wipe k mn) fun r8 => (if r8.1 = true then (0, (r8.2.1, r8.2.2.1, yupB r8.2.2.2.1 k false, r8.2.2.2.2.1, r8.2.2.2.2.2.1, r8.2.2.2.2.2.2.1, r8.2.2.2.2.2.2.2.1, r8.2.2.2.2.2.2.2.2)) else ((-2), r8.2))))) = (x, mn') ∧ NOD nd' mn' k n ∧ UPK nd' ∧ (∀ q, q ≠ k → AGR mn mn' q) := by
  obtain ⟨va, lg, no, se, he, pw, wl⟩ := nd
  obtain ⟨h, rf, dk, fz, nt, sl, nr, nv⟩ := mn
  obtain ⟨hV, hP, ⟨m, hm, e3, e4, hL⟩, e5, e6, hi⟩ := H
  have hV : RV va rf k n := hV
  have hP : RP pw wl dk fz k := hP
  have hd : pw = false := hd
  have e3 : nt k % 5 = m := e3
  have e4 : no = nI m := e4
  have hL : ylP lg nr nv (4 * k) n 8 m := hL
  have e5 : se = sl k := e5
  have e6 : he = h k := e6
  have hi : yin (h k) n := hi
  dsimp only
  have up : ∀ (pw' : Bool) (wl' : Int32) (dk' : Nat → Bool) (fz' : Nat → Int32), RP pw' wl' dk' fz' k → RP true wl' (yupB dk' k false) fz' k := by
    intro pw' wl' dk' fz' hR
    exact ⟨by rw [yupB_at]; rfl, hR.2⟩
  rw [nd_restore]
  dsimp only
  cases hs : se with
  | true =>
    have es : sl k = true := e5.symm.trans hs
    rw [if_pos rfl, if_pos es]
    obtain ⟨b, va', lg', no', se', pw', wl', rf', dk', fz', nt', sl', a1, a2, b1, b2, b3, b4, b5⟩ := w_carry (he := he) (h := h) (no := no) (se := true) (nt := nt) (sl := sl) hn hm 8 0 0 (by omega) (ylP_all hL) va rf pw wl dk fz hV hP
    rw [Nat.sub_zero] at a2
    rw [← e3] at a2
    rw [nd_carryOutLog, md_replay]
    simp only [yb, a1, a2]
    have e5' : true = sl k := hs.symm.trans e5
    have t := PO_PE (nr := nr) (nv := nv) hm e3 e4 hL e5' b5
    obtain ⟨⟨m', hm', c1, c2, c3⟩, c4, c5, c6⟩ := t
    have fr : ∀ q, q ≠ k → AGR (h, rf, dk, fz, nt, sl, nr, nv) (h, rf', dk', fz', nt', sl', nr, nv) q := by
      intro q hq
      obtain ⟨x1, x2, x3, x4⟩ := b3 q hq
      exact ⟨rfl, fun r hr => b4 _ (by omega), x1, x2, x3, x4, fun _ _ => ⟨rfl, rfl⟩⟩
    cases b with
    | true =>
      rw [if_pos rfl, if_pos rfl, show nI (nt k % 5) = no by rw [e3, e4]]
      refine ⟨no, _, _, rfl, rfl, ⟨b1, up _ _ _ _ b2, ⟨m', hm', c1, c2, c3⟩, c4, e6, hi⟩, fun _ => ⟨(c5 rfl).2.1, (c5 rfl).2.2⟩, fun q hq => AGR_trans (fr q hq) ⟨rfl, fun _ _ => rfl, yupB_ne _ _ hq, rfl, rfl, rfl, fun _ _ => ⟨rfl, rfl⟩⟩⟩
    | false =>
      rw [if_neg (by decide), if_neg (by decide)]
      refine ⟨-2, _, _, rfl, rfl, ⟨b1, b2, ⟨m', hm', c1, c2, c3⟩, c4, e6, hi⟩, fun hp' => ?_, fr⟩
      have hp' : pw' = true := hp'
      rw [c6 rfl] at hp'
      cases hp'
  | false =>
    have es : ¬ sl k = true := by
      rw [← e5, hs]
      decide
    rw [if_neg (show ¬ false = true by decide), if_neg es]
    by_cases h0 : m = 0
    · subst h0
      rw [if_pos (show no = 0 from e4), if_pos (show nI (nt k % 5) = 0 by rw [e3]; rfl)]
      refine ⟨0, _, _, rfl, rfl, ⟨hV, up _ _ _ _ hP, ⟨0, by omega, e3, e4, hL⟩, hs.symm.trans e5, e6, hi⟩, fun _ => ⟨e4, rfl⟩, fun q hq => ⟨rfl, fun _ _ => rfl, yupB_ne _ _ hq, rfl, rfl, rfl, fun _ _ => ⟨rfl, rfl⟩⟩⟩
    · have hne : ¬ nI m = 0 := fun hh => h0 ((pw_0 m (by omega)).mp hh)
      rw [if_neg (show ¬ no = 0 by rw [e4]; exact hne), if_neg (show ¬ nI (nt k % 5) = 0 by rw [e3]; exact hne)]
      obtain ⟨b, lg', no', se', pw', wl', dk', fz', nt', sl', a1, a2, b2, b3, b5⟩ := w_wipe (va := va) (lg := lg) (no := no) (se := false) (he := he) (h := h) (rf := rf) (nt := nt) (sl := sl) (nr := nr) (nv := nv) hP
      simp only [yb, a1, a2]
      have e5' : false = sl k := hs.symm.trans e5
      have t := PO_PE (nr := nr) (nv := nv) hm e3 e4 hL e5' b5
      obtain ⟨⟨m', hm', c1, c2, c3⟩, c4, c5, c6⟩ := t
      have fr : ∀ q, q ≠ k → AGR (h, rf, dk, fz, nt, sl, nr, nv) (h, rf, dk', fz', nt', sl', nr, nv) q := by
        intro q hq
        obtain ⟨x1, x2, x3, x4⟩ := b3 q hq
        exact ⟨rfl, fun _ _ => rfl, x1, x2, x3, x4, fun _ _ => ⟨rfl, rfl⟩⟩
      cases b with
      | true =>
        rw [if_pos rfl, if_pos rfl]
        refine ⟨0, _, _, rfl, rfl, ⟨hV, up _ _ _ _ b2, ⟨m', hm', c1, c2, c3⟩, c4, e6, hi⟩, fun _ => ⟨(c5 rfl).2.1, (c5 rfl).2.2⟩, fun q hq => AGR_trans (fr q hq) ⟨rfl, fun _ _ => rfl, yupB_ne _ _ hq, rfl, rfl, rfl, fun _ _ => ⟨rfl, rfl⟩⟩⟩
      | false =>
        rw [if_neg (by decide), if_neg (by decide)]
        refine ⟨-2, _, _, rfl, rfl, ⟨hV, b2, ⟨m', hm', c1, c2, c3⟩, c4, e6, hi⟩, fun hp' => ?_, fr⟩
        have hp' : pw' = true := hp'
        rw [c6 rfl] at hp'
        cases hp'
end
section
/-! objects made -/
/-- what a new object may name -/
def VN (kd f1 f2 f3 : Int32) (n : Nat) : Prop := kd = 0 ∨ ((kd = 1 ∨ kd = 2) ∧ (∃ a, a < n ∧ f1 = nI a) ∧ (f2 = -1 ∨ ∃ b, b < n ∧ f2 = nI b) ∧ (f3 = -1 ∨ ∃ c, c < n ∧ f3 = nI c))
theorem st_reachOf_nI {so : SS} {mo : MO} (HO : OBJ so mo) {a : Nat} (ha : a < mo.1) : st_reachOf (nI a) so = yR mo mo.1 (ylshl 1 (nI a)) := by
  have h60 := HO.2.1
  unfold st_reachOf st_isNumber
  simp only [yb]
  rw [HO.1, if_neg (nI_pos (by omega)), if_neg (nI_ge ha (by omega)), if_pos rfl, nI_clamp (by omega)]
  exact HO.2.2.2.2.2.2.2 a ha
theorem st_reachOf_opt {so : SS} {mo : MO} (HO : OBJ so mo) {f : Int32} (h : f = -1 ∨ ∃ b, b < mo.1 ∧ f = nI b) : st_reachOf f so = yR mo mo.1 (if f < 0 then 0 else ylshl 1 f) := by
  have h60 := HO.2.1
  rcases h with h | ⟨b, hb, h⟩
  · subst h
    rw [if_pos (show (-1 : Int32) < 0 by decide), yR_0]
    unfold st_reachOf st_isNumber
    simp only [yb]
    rw [if_pos (show (-1 : Int32) < 0 by decide), if_neg (show ¬ false = true by decide)]
  · subst h
    rw [if_neg (nI_pos (by omega))]
    exact st_reachOf_nI HO hb
theorem yVal_upd {mo : MO} {n x : Nat} {kd f1 f2 f3 : Int32} (hx : x ≠ n) (h : yVal mo x) : yVal (n + 1, upd mo.2.1 n kd, upd mo.2.2.1 n f1, upd mo.2.2.2.1 n f2, upd mo.2.2.2.2 n f3) x := by
  unfold yVal at h ⊢
  dsimp only
  rw [upd_ne _ _ hx, upd_ne _ _ hx, upd_ne _ _ hx, upd_ne _ _ hx]
  exact h
theorem yP_upd {mo : MO} {n x : Nat} {kd f1 f2 f3 : Int32} (hx : x ≠ n) : yP (n + 1, upd mo.2.1 n kd, upd mo.2.2.1 n f1, upd mo.2.2.2.1 n f2, upd mo.2.2.2.2 n f3) x = yP mo x := by
  unfold yP
  simp only [upd_ne _ _ hx]
theorem o_add {so : SS} {mo : MO} {kd f1 f2 f3 : Int32} (HO : OBJ so mo) (h60 : mo.1 < 60) (hV : VN kd f1 f2 f3 mo.1) : ∃ so', st_add kd f1 f2 f3 so = (nI mo.1, so') ∧ OBJ so' (mo.1 + 1, upd mo.2.1 mo.1 kd, upd mo.2.2.1 mo.1 f1, upd mo.2.2.2.1 mo.1 f2, upd mo.2.2.2.2 mo.1 f3) := by
  have hful : st_isFull so = false := by
    unfold st_isFull
    rw [HO.1, if_pos (show nI mo.1 < 60 from nI_lt (b := 60) h60 (by decide))]
  obtain ⟨g1, g2, g3, g4, g5, g6, g7, g8⟩ := HO
  have HO : OBJ so mo := ⟨g1, g2, g3, g4, g5, g6, g7, g8⟩
  have one : ∀ x, x < mo.1 → yR (mo.1 + 1, upd mo.2.1 mo.1 kd, upd mo.2.2.1 mo.1 f1, upd mo.2.2.2.1 mo.1 f2, upd mo.2.2.2.2 mo.1 f3) (mo.1 + 1) (ylshl 1 (nI x)) = yR mo mo.1 (ylshl 1 (nI x)) := by
    intro x hx
    rw [yR, if_neg (show ¬ yx (ylshl 1 (nI x)) mo.1 = true by rw [yx_1 (by omega), decide_eq_false (show ¬ x = mo.1 by omega)]; decide)]
    exact yR_congr mo.1 _ (fun y hy => yP_upd (by omega))
  have new : yR (mo.1 + 1, upd mo.2.1 mo.1 kd, upd mo.2.2.1 mo.1 f1, upd mo.2.2.2.1 mo.1 f2, upd mo.2.2.2.2 mo.1 f3) (mo.1 + 1) (ylshl 1 (nI mo.1)) = ylshl 1 (nI mo.1) ||| yR mo mo.1 (yP (mo.1 + 1, upd mo.2.1 mo.1 kd, upd mo.2.2.1 mo.1 f1, upd mo.2.2.2.1 mo.1 f2, upd mo.2.2.2.2 mo.1 f3) mo.1) := by
    rw [yR, if_pos (show yx (ylshl 1 (nI mo.1)) mo.1 = true by rw [yx_1 (by omega)]; exact decide_eq_true rfl), yR_congr (mo' := mo) mo.1 _ (fun y hy => yP_upd (by omega)), yR_or]
    congr 1
    refine yR_lo mo mo.1 _ (fun i hi => ?_)
    rw [yx_1 (by omega)]
    exact decide_eq_false (by omega)
  have hval : ∀ x, x < mo.1 + 1 → yVal (mo.1 + 1, upd mo.2.1 mo.1 kd, upd mo.2.2.1 mo.1 f1, upd mo.2.2.2.1 mo.1 f2, upd mo.2.2.2.2 mo.1 f3) x := by
    intro x hx
    by_cases hxn : x = mo.1
    · subst hxn
      unfold yVal
      dsimp only
      rw [upd_at, upd_at, upd_at, upd_at]
      exact hV
    · exact yVal_upd hxn (g7 x (by omega))
  by_cases hk : kd = 0
  · refine ⟨(upd so.1 mo.1 kd, upd so.2.1 mo.1 f1, upd so.2.2.1 mo.1 f2, upd so.2.2.2.1 mo.1 f3, vp_updL so.2.2.2.2.1 mo.1 (ylshl 1 (nI mo.1)), mo.1 + 1), ?_, ?_⟩
    · rw [st_add, hful]
      simp only [yb]
      rw [if_neg (show ¬ false = true by decide), if_pos hk, g1]
    · refine ⟨rfl, by show mo.1 + 1 ≤ 60; omega, by show upd so.1 mo.1 kd = upd mo.2.1 mo.1 kd; rw [g3], by show upd so.2.1 mo.1 f1 = upd mo.2.2.1 mo.1 f1; rw [g4], by show upd so.2.2.1 mo.1 f2 = upd mo.2.2.2.1 mo.1 f2; rw [g5], by show upd so.2.2.2.1 mo.1 f3 = upd mo.2.2.2.2 mo.1 f3; rw [g6], hval, ?_⟩
      intro x hx
      have hx : x < mo.1 + 1 := hx
      show vp_updL so.2.2.2.2.1 mo.1 (ylshl 1 (nI mo.1)) x = _
      by_cases hxn : x = mo.1
      · subst hxn
        rw [updL_at, new]
        have e0 : yP (mo.1 + 1, upd mo.2.1 mo.1 kd, upd mo.2.2.1 mo.1 f1, upd mo.2.2.2.1 mo.1 f2, upd mo.2.2.2.2 mo.1 f3) mo.1 = 0 := by
          unfold yP
          dsimp only
          rw [if_pos (show upd mo.2.1 mo.1 kd mo.1 ≤ 0 by rw [upd_at, hk]; decide)]
        rw [e0, yR_0, yx_or0]
      · rw [updL_ne _ _ hxn, one x (by omega)]
        exact g8 x (by omega)
  · rcases hV with hV | ⟨hkd, ⟨a, ha, ea⟩, h2, h3⟩
    · exact absurd hV hk
    · refine ⟨(upd so.1 mo.1 kd, upd so.2.1 mo.1 f1, upd so.2.2.1 mo.1 f2, upd so.2.2.2.1 mo.1 f3, vp_updL so.2.2.2.2.1 mo.1 ((((ylshl 1 (nI mo.1)) ||| st_reachOf f1 so) ||| st_reachOf f2 so) ||| st_reachOf f3 so), mo.1 + 1), ?_, ?_⟩
      · rw [st_add, hful]
        simp only [yb]
        rw [if_neg (show ¬ false = true by decide), if_neg hk, g1]
      · refine ⟨rfl, by show mo.1 + 1 ≤ 60; omega, by show upd so.1 mo.1 kd = upd mo.2.1 mo.1 kd; rw [g3], by show upd so.2.1 mo.1 f1 = upd mo.2.2.1 mo.1 f1; rw [g4], by show upd so.2.2.1 mo.1 f2 = upd mo.2.2.2.1 mo.1 f2; rw [g5], by show upd so.2.2.2.1 mo.1 f3 = upd mo.2.2.2.2 mo.1 f3; rw [g6], hval, ?_⟩
        intro x hx
        have hx : x < mo.1 + 1 := hx
        show vp_updL so.2.2.2.2.1 mo.1 ((((ylshl 1 (nI mo.1)) ||| st_reachOf f1 so) ||| st_reachOf f2 so) ||| st_reachOf f3 so) x = _
        by_cases hxn : x = mo.1
        · subst hxn
          rw [updL_at, new]
          have e0 : yP (mo.1 + 1, upd mo.2.1 mo.1 kd, upd mo.2.2.1 mo.1 f1, upd mo.2.2.2.1 mo.1 f2, upd mo.2.2.2.2 mo.1 f3) mo.1 = ((ylshl 1 f1) ||| (if f2 < 0 then 0 else ylshl 1 f2)) ||| (if f3 < 0 then 0 else ylshl 1 f3) := by
            unfold yP
            dsimp only
            rw [if_neg (show ¬ upd mo.2.1 mo.1 kd mo.1 ≤ 0 by rw [upd_at]; rcases hkd with h | h <;> rw [h] <;> decide)]
            simp only [upd_at]
          rw [e0, yR_or, yR_or, st_reachOf_opt HO h2, st_reachOf_opt HO h3, ea, st_reachOf_nI HO ha, yx_orA, yx_orA, yx_orA]
        · rw [updL_ne _ _ hxn, one x (by omega)]
          exact g8 x (by omega)
theorem find_make {so : SS} {mo : MO} {mn : MN} {k : Nat} {kd f1 f2 f3 : Int32} (HO : OBJ so mo) : ∀ (kk i : Nat), i + kk = mo.1 → (st_find_L3 kd f1 f2 f3 so kk i = -1 ∧ md_make_L3 k kd f1 f2 f3 mo mn kk i = md_make_L3 k kd f1 f2 f3 mo mn 0 mo.1) ∨ (∃ j, j < mo.1 ∧ st_find_L3 kd f1 f2 f3 so kk i = nI j ∧ md_make_L3 k kd f1 f2 f3 mo mn kk i = md_make_L3 k kd f1 f2 f3 mo mn 0 j)
  | 0, i, h => by
    left
    have e : i = mo.1 := by omega
    rw [e]
    exact ⟨rfl, rfl⟩
  | kk + 1, i, h => by
    have ih := find_make (mn := mn) (k := k) (kd := kd) (f1 := f1) (f2 := f2) (f3 := f3) HO kk (i + 1) (by omega)
    obtain ⟨g1, g2, g3, g4, g5, g6, g7, g8⟩ := HO
    have eM : md_make_L3 k kd f1 f2 f3 mo mn (kk + 1) i = if mo.2.1 i = kd then (if mo.2.2.1 i = f1 then (if mo.2.2.2.1 i = f2 then (if mo.2.2.2.2 i = f3 then md_make_L3 k kd f1 f2 f3 mo mn 0 i else md_make_L3 k kd f1 f2 f3 mo mn kk (i + 1)) else md_make_L3 k kd f1 f2 f3 mo mn kk (i + 1)) else md_make_L3 k kd f1 f2 f3 mo mn kk (i + 1)) else md_make_L3 k kd f1 f2 f3 mo mn kk (i + 1) := rfl
    rw [eM, st_find_L3, g3, g4, g5, g6]
    by_cases c1 : mo.2.1 i = kd
    · rw [if_pos c1, if_pos c1]
      by_cases c2 : mo.2.2.1 i = f1
      · rw [if_pos c2, if_pos c2]
        by_cases c3 : mo.2.2.2.1 i = f2
        · rw [if_pos c3, if_pos c3]
          by_cases c4 : mo.2.2.2.2 i = f3
          · rw [if_pos c4, if_pos c4]
            exact Or.inr ⟨i, by omega, rfl, rfl⟩
          · rw [if_neg c4, if_neg c4]
            exact ih
        · rw [if_neg c3, if_neg c3]
          exact ih
      · rw [if_neg c2, if_neg c2]
        exact ih
    · rw [if_neg c1, if_neg c1]
      exact ih
theorem isIn_m1 (x : Int64) : px_isIn x (-1) = false := by
  unfold px_isIn
  rw [if_pos (show (-1 : Int32) < 0 by decide)]
/-- writing an object -/
theorem n_make {so : SS} {mo : MO} {nd : NS} {mn : MN} {k : Nat} {kd f1 f2 f3 : Int32} (HO : OBJ so mo) (H : NOD nd mn k mo.1) (U : UPK nd) (hu : nd.2.2.2.2.2.1 = true) (hV : VN kd f1 f2 f3 mo.1) :
    ∃ (x : Int32) (so' : SS) (nd' : NS) (mo' : MO) (mn' : MN), px_writeObject kd f1 f2 f3 so nd = (x, so', nd') ∧ md_make k kd f1 f2 f3 mo mn = (x, mo', mn') ∧ OBJ so' mo' ∧ NOD nd' mn' k mo'.1 ∧ UPK nd' ∧ (∀ q, q ≠ k → AGR mn mn' q) ∧ mo.1 ≤ mo'.1 ∧ (x < 0 ∨ (nd'.2.2.2.2.2.1 = true ∧ ∃ j, j < mo'.1 ∧ x = nI j)) := by
  have h60 := HO.2.1
  have hfm := find_make (mn := mn) (k := k) (kd := kd) (f1 := f1) (f2 := f2) (f3 := f3) HO mo.1 0 (by omega)
  have hfind : st_find kd f1 f2 f3 so = st_find_L3 kd f1 f2 f3 so mo.1 0 := by
    unfold st_find
    rw [HO.1]
  rw [px_writeObject, hfind, md_make]
  obtain ⟨va, lg, no, se, he, pw, wl⟩ := nd
  obtain ⟨h, rf, dk, fz, nt, sl, nr, nv⟩ := mn
  obtain ⟨hV', hP, hL, e5, e6, hi⟩ := H
  have hP : RP pw wl dk fz k := hP
  have e6 : he = h k := e6
  have hi : yin (h k) mo.1 := hi
  have hu : pw = true := hu
  obtain ⟨b, pw1, wl1, dk1, fz1, c1, c2, hR, hq, ht, hf⟩ := w_write (va := va) (lg := lg) (no := no) (se := se) (he := he) (h := h) (rf := rf) (nt := nt) (sl := sl) (nr := nr) (nv := nv) hP
  have frw : ∀ q, q ≠ k → AGR (h, rf, dk, fz, nt, sl, nr, nv) (h, rf, dk1, fz1, nt, sl, nr, nv) q := fun q h1 => ⟨rfl, fun _ _ => rfl, (hq q h1).1, (hq q h1).2, rfl, rfl, fun _ _ => ⟨rfl, rfl⟩⟩
  have frk : ∀ (z : Int64) q, q ≠ k → AGR (h, rf, dk, fz, nt, sl, nr, nv) (vp_updL h k z, rf, dk1, fz1, nt, sl, nr, nv) q := fun z q h1 => ⟨updL_ne _ _ h1, fun _ _ => rfl, (hq q h1).1, (hq q h1).2, rfl, rfl, fun _ _ => ⟨rfl, rfl⟩⟩
  have nof : b = false → UPK (va, lg, no, se, he, pw1, wl1) := fun hb hp' => by
    have hp' : pw1 = true := hp'
    rw [hf hb] at hp'
    cases hp'
  have m60 : ∀ j, j < 60 → ¬ nI j = 60 := fun j hj hh => absurd ((nI_eq (b := 60) (by omega) (by decide)).mp hh) (by omega)
  rcases hfm with ⟨m1, m2⟩ | ⟨j, hj, m1, m2⟩
  · rw [m1, m2, md_make_L3]
    simp only [yb]
    rw [if_pos trivial]
    by_cases hful : mo.1 = 60
    · have e1 : st_isFull so = true := by
        unfold st_isFull
        rw [HO.1, hful, if_neg (by decide +kernel)]
      rw [if_pos e1, if_pos (show nI mo.1 = 60 by rw [hful]; rfl)]
      refine ⟨-3, _, _, _, _, rfl, rfl, HO, ⟨hV', hP, hL, e5, e6, hi⟩, U, fun q _ => AGR_refl _ q, Nat.le_refl _, Or.inl (by decide)⟩
    · have e1 : st_isFull so = false := by
        unfold st_isFull
        rw [HO.1, if_pos (show nI mo.1 < 60 from nI_lt (b := 60) (by omega) (by decide))]
      rw [if_neg (show ¬ st_isFull so = true by rw [e1]; decide), if_neg (show ¬ px_isIn (nd_heldSet (va, lg, no, se, he, pw, wl)) (-1) = true by rw [isIn_m1]; decide), if_neg (m60 mo.1 (by omega)), if_pos (nI_le (Nat.le_refl _) (by omega)), c1, c2]
      cases b with
      | false =>
        rw [if_neg (show ¬ false = true by decide), if_neg (show ¬ false = true by decide)]
        exact ⟨-2, _, _, _, _, rfl, rfl, HO, ⟨hV', hR, hL, e5, e6, hi⟩, nof rfl, frw, Nat.le_refl _, Or.inl (by decide)⟩
      | true =>
        obtain ⟨so', a1, a2⟩ := o_add HO (by omega) hV
        rw [if_pos rfl, if_pos rfl, a1, if_pos trivial]
        dsimp only
        rw [keep_nI (by omega)]
        dsimp only
        refine ⟨nI mo.1, _, _, _, _, rfl, rfl, a2, ?_, fun _ => U hu, frk _, by show mo.1 ≤ mo.1 + 1; omega, Or.inr ⟨(ht rfl).trans hu, mo.1, by show mo.1 < mo.1 + 1; omega, rfl⟩⟩
        have N1 : NOD (va, lg, no, se, he, pw1, wl1) (h, rf, dk1, fz1, nt, sl, nr, nv) k mo.1 := ⟨hV', hR, hL, e5, e6, hi⟩
        obtain ⟨p1, p2, p3, p4, p5, p6⟩ := NOD_mono (show mo.1 ≤ mo.1 + 1 by omega) N1
        refine ⟨p1, p2, p3, p4, ?_, ?_⟩
        · show he ||| ylshl 1 (nI mo.1) = vp_updL h k (h k ||| ylshl 1 (nI mo.1)) k
          rw [updL_at, e6]
        · show yin (vp_updL h k (h k ||| ylshl 1 (nI mo.1)) k) (mo.1 + 1)
          rw [updL_at]
          exact yin_or p6 (yin_1 (by omega) (by omega))
  · have nm1 : ¬ nI j = -1 := fun hh => by
      have := (pv_m1 (j + 1) (by omega)).mp (by rw [nI_pred]; exact hh)
      omega
    rw [m1, m2, md_make_L3]
    simp only [yb]
    have hC : px_isIn (nd_heldSet (va, lg, no, se, he, pw, wl)) (nI j) = yx he j := px_isIn_nI (by omega)
    have hM : md_has k (nI j) mo (h, rf, dk, fz, nt, sl, nr, nv) = yx he j := by
      rw [md_has_nI hj h60, e6]
    rw [if_neg nm1, if_neg (m60 j (by omega)), if_neg (nI_ge hj (by omega))]
    by_cases hx : yx he j = true
    · rw [if_pos (hC.trans hx), if_pos (hM.trans hx)]
      exact ⟨nI j, _, _, _, _, rfl, rfl, HO, ⟨hV', hP, hL, e5, e6, hi⟩, U, fun q _ => AGR_refl _ q, Nat.le_refl _, Or.inr ⟨hu, j, hj, rfl⟩⟩
    · rw [if_neg (show ¬ px_isIn (nd_heldSet (va, lg, no, se, he, pw, wl)) (nI j) = true by rw [hC]; exact hx), if_neg (show ¬ md_has k (nI j) mo (h, rf, dk, fz, nt, sl, nr, nv) = true by rw [hM]; exact hx), c1, c2]
      cases b with
      | false =>
        rw [if_neg (show ¬ false = true by decide), if_neg (show ¬ false = true by decide)]
        exact ⟨-2, _, _, _, _, rfl, rfl, HO, ⟨hV', hR, hL, e5, e6, hi⟩, nof rfl, frw, Nat.le_refl _, Or.inl (by decide)⟩
      | true =>
        rw [if_pos rfl, if_pos rfl, if_neg (show ¬ nI j = nI mo.1 from fun hh => absurd ((nI_eq (by omega) (by omega)).mp hh) (by omega)), keep_nI (by omega)]
        dsimp only
        refine ⟨nI j, _, _, _, _, rfl, rfl, HO, ⟨hV', hR, hL, e5, ?_, ?_⟩, fun _ => U hu, frk _, Nat.le_refl _, Or.inr ⟨(ht rfl).trans hu, j, hj, rfl⟩⟩
        · show he ||| ylshl 1 (nI j) = vp_updL h k (h k ||| ylshl 1 (nI j)) k
          rw [updL_at, e6]
        · show yin (vp_updL h k (h k ||| ylshl 1 (nI j)) k) mo.1
          rw [updL_at]
          exact yin_or hi (yin_1 hj (by omega))
end
section
/-! the talk -/
def yhi (o : Int64) : Nat → Nat → Int64
  | 0, _ => 0
  | x + 1, f => if 3 ≤ f then 0 else if yx o x = true then ylshl 1 (nI x) ||| yhi o x (f + 1) else yhi o x f
def yhc (o : Int64) : Nat → Nat → Nat
  | 0, _ => 0
  | x + 1, f => if 3 ≤ f then 0 else if yx o x = true then yhc o x (f + 1) + 1 else yhc o x f
theorem yhi_3 {o : Int64} {f : Nat} (h : 3 ≤ f) : ∀ x : Nat, yhi o x f = 0
  | 0 => rfl
  | x + 1 => by rw [yhi, if_pos h]
theorem yhc_3 {o : Int64} {f : Nat} (h : 3 ≤ f) : ∀ x : Nat, yhc o x f = 0
  | 0 => rfl
  | x + 1 => by rw [yhc, if_pos h]
theorem yhi_in (o : Int64) : ∀ (x f : Nat), x ≤ 64 → yin (yhi o x f) x
  | 0, f, _ => yin_0
  | x + 1, f, h => by
    rw [yhi]
    split
    · exact yin_0
    · split
      · exact yin_or (yin_1 (by omega) h) (yin_mono (yhi_in o x (f + 1) (by omega)) (by omega))
      · exact yin_mono (yhi_in o x f (by omega)) (by omega)
theorem yhi_sub (o : Int64) : ∀ (x f i : Nat), x ≤ 64 → yx (yhi o x f) i = true → yx o i = true
  | 0, f, i, _, h => by
    rw [yhi, yx_0] at h
    cases h
  | x + 1, f, i, hx, h => by
    rw [yhi] at h
    split at h
    · rw [yx_0] at h
      cases h
    · split at h
      · rename_i h2
        rw [yx_or, yx_1 (by omega)] at h
        by_cases he : x = i
        · rw [← he]
          exact h2
        · rw [decide_eq_false he, Bool.false_or] at h
          exact yhi_sub o x (f + 1) i (by omega) h
      · exact yhi_sub o x f i (by omega) h
theorem yhi_cnt (o : Int64) : ∀ (x f : Nat), x ≤ 60 → ycnt (yhi o x f) 60 = yhc o x f
  | 0, f, _ => ycnt_none 60 (fun i _ => yx_0 i)
  | x + 1, f, h => by
    rw [yhi, yhc]
    split
    · exact ycnt_none 60 (fun i _ => yx_0 i)
    · split
      · rw [ycnt_or 60 (fun i _ h1 => ?_), ycnt_1 60 (by decide) (by omega), yhi_cnt o x (f + 1) (by omega), Nat.add_comm]
        rw [yx_1 (by omega)] at h1
        have : x = i := of_decide_eq_true h1
        exact yhi_in o x (f + 1) (by omega) i (by omega)
      · exact yhi_cnt o x f (by omega)
theorem yhi_skip {o : Int64} {n : Nat} (h : yin o n) (f : Nat) : ∀ d : Nat, yhi o (n + d) f = yhi o n f
  | 0 => rfl
  | d + 1 => by
    show yhi o ((n + d) + 1) f = _
    rw [yhi]
    split
    · rename_i h3
      rw [yhi_3 h3]
    · rw [h (n + d) (by omega), if_neg (by decide)]
      exact yhi_skip h f d
theorem i3_le {f : Nat} (h : f < 100) : (3 : Int32) ≤ nI f ↔ 3 ≤ f := nI_leI (a := 3) (by decide) (by omega)
theorem highest_L (o : Int64) : ∀ (x f : Nat) (ch : Int64), x ≤ 60 → f ≤ 3 → tk_highest_L9 o x ch (nI f) = ch ||| yhi o x f
  | 0, f, ch, _, _ => (yx_or0 ch).symm
  | x + 1, f, ch, h, hf => by
    rw [tk_highest_L9, yhi]
    by_cases h3 : 3 ≤ f
    · rw [if_pos ((i3_le (by omega)).mpr h3), if_pos h3, yx_or0]
    · rw [if_neg (fun hh => h3 ((i3_le (by omega)).mp hh)), if_neg h3]
      simp only [yb]
      rw [px_isIn_nI (by omega)]
      by_cases hx : yx o x = true
      · rw [if_pos hx, if_pos hx, nI_1, highest_L o x (f + 1) _ (by omega) (by omega), yx_orA]
      · rw [if_neg hx, if_neg hx, highest_L o x f _ (by omega) hf]
theorem highest_eq {o : Int64} {n : Nat} (hn : n ≤ 60) (h : yin o n) : tk_highest o = yhi o n 0 := by
  unfold tk_highest
  have t := highest_L o 60 0 0 (by decide) (by decide)
  have e := yhi_skip h 0 (60 - n)
  rw [show n + (60 - n) = 60 by omega] at e
  rw [e] at t
  have z : (0 : Int64) ||| yhi o n 0 = yhi o n 0 := by rw [yx_orC, yx_or0]
  rw [z] at t
  exact t
theorem yx_1and {x : Nat} (hx : x < 64) (H : Int64) : ylshl 1 (nI x) &&& H = if yx H x = true then ylshl 1 (nI x) else 0 := by
  apply yx_ext
  intro i _
  by_cases h : yx H x = true
  · rw [if_pos h, yx_and, yx_1 hx]
    by_cases he : x = i
    · rw [← he, h, Bool.and_true]
    · rw [decide_eq_false he]
      rfl
  · rw [if_neg h, yx_and, yx_1 hx, yx_0]
    by_cases he : x = i
    · rw [← he, (Bool.not_eq_true _).mp h, Bool.and_false]
    · rw [decide_eq_false he]
      rfl
theorem and_orR (a b H : Int64) : (a ||| b) &&& H = (a &&& H) ||| (b &&& H) := by
  apply yx_ext
  intro i _
  simp only [yx_and, yx_or]
  cases yx a i <;> cases yx b i <;> cases yx H i <;> rfl
theorem and_not2 (o a b : Int64) : (o &&& (a ^^^ (-1))) &&& (b ^^^ (-1)) = o &&& ((a ||| b) ^^^ (-1)) := by
  apply yx_ext
  intro i hi
  rw [yx_and, yx_and, yx_and, yx_not _ hi, yx_not _ hi, yx_not _ hi, yx_or]
  cases yx o i <;> cases yx a i <;> cases yx b i <;> rfl
theorem conv_97 {mo : MO} {mn : MN} {K : Int64 → Int32 → Int64 → Int64 × MT} (ho : mo.1 ≤ 60) (o : Int64) : ∀ (x f : Nat) (opn now : Int64), x ≤ mo.1 → f ≤ 3 → (∀ i, i < x → yx opn i = yx o i) → md_converse_L97 mo mn K x opn (nI f) now = K (opn &&& (yhi o x f ^^^ (-1))) (nI (f + yhc o x f)) (now ||| (yhi o x f &&& mn.1 0))
  | 0, f, opn, now, _, _, _ => by
    rw [md_converse_L97, yhi, yhc]
    have e1 : opn &&& ((0 : Int64) ^^^ (-1)) = opn := by
      apply yx_ext
      intro i hi
      rw [yx_and, yx_not _ hi, yx_0]
      cases yx opn i <;> rfl
    have e2 : (0 : Int64) &&& mn.1 0 = 0 := by
      apply yx_ext
      intro i _
      rw [yx_and, yx_0]
      rfl
    rw [e1, e2, yx_or0, Nat.add_zero]
  | x + 1, f, opn, now, hx, hf, ha => by
    rw [md_converse_L97]
    by_cases h3 : 3 ≤ f
    · rw [if_pos ((i3_le (by omega)).mpr h3), conv_97 ho o x f opn now (by omega) hf (fun i hi => ha i (by omega)), yhi_3 h3, yhi_3 h3, yhc_3 h3, yhc_3 h3]
    · rw [if_neg (fun hh => h3 ((i3_le (by omega)).mp hh)), yhi, yhc, if_neg h3, if_neg h3]
      by_cases hb : yx o x = true
      · have hb' : yx opn x = true := (ha x (by omega)).trans hb
        rw [if_pos ((yx_shr_1 opn (by omega)).mpr hb'), if_pos hb, if_pos hb]
        simp only [yb]
        rw [md_has_nI (by omega) ho, nI_1]
        have hop : ∀ i, i < x → yx (opn &&& (ylshl 1 (nI x) ^^^ (-1))) i = yx o i := by
          intro i hi
          rw [yx_and, yx_not _ (by omega), yx_1 (by omega), decide_eq_false (show ¬ x = i by omega), ha i (by omega)]
          exact Bool.and_true _
        rw [conv_97 ho o x (f + 1) _ _ (by omega) (by omega) hop, conv_97 ho o x (f + 1) _ _ (by omega) (by omega) hop, and_not2, show f + 1 + yhc o x (f + 1) = f + (yhc o x (f + 1) + 1) by omega, and_orR, yx_1and (by omega)]
        by_cases hh : yx (mn.1 0) x = true
        · rw [if_pos hh, if_pos hh, yx_orA]
        · rw [if_neg hh, if_neg hh, yx_orC 0, yx_or0]
      · have hb' : ¬ yx opn x = true := fun hh => hb ((ha x (by omega)).symm.trans hh)
        rw [if_neg (fun hh => hb' ((yx_shr_1 opn (by omega)).mp hh)), if_neg hb, if_neg hb]
        exact conv_97 ho o x f opn now (by omega) hf (fun i hi => ha i (by omega))
section TK
variable {so : SS} {mo : MO} {mn : MN} {wants hbs : Int64} {ackd : Int32}
theorem talk_stop {known left : Int64} {sent : Int32} (h : st_eachReachesOne wants known so = true) : ∀ (k i : Nat), tk_run_L17 wants hbs so k i known left sent ackd = (known, (sent, jl_bitCount known, nI i))
  | 0, i => by
    rw [tk_run_L17]
    simp only [yb]
  | k + 1, i => by
    rw [tk_run_L17]
    simp only [yb]
    by_cases h0 : left = 0
    · rw [if_pos h0]
    · rw [if_neg h0, h, if_pos rfl]
theorem talk_L (HO : OBJ so mo) : ∀ (k i : Nat) (known left : Int64) (sent : Int32), yin known mo.1 → yin left mo.1 → (∀ q, yx known q = true → yx left q = false) → st_eachReachesOne wants known so = false → tk_run_L17 wants (mn.1 0) so k i known left sent ackd = md_converse_L69 wants mo mn k i known left (sent, nI (ycnt known 60), nI i)
  | 0, i, known, left, sent, hk, _, _, _ => by
    have h60 := HO.2.1
    rw [tk_run_L17, md_converse_L69]
    simp only [yb]
    rw [jl_many (yin_mono hk h60)]
  | k + 1, i, known, left, sent, hk, hl, hd, he => by
    have h60 := HO.2.1
    rw [tk_run_L17, md_converse_L69]
    simp only [yb]
    by_cases h0 : left = 0
    · rw [if_pos h0, if_pos h0, jl_many (yin_mono hk h60)]
    · rw [if_neg h0, if_neg h0, he, if_neg (show ¬ false = true by decide)]
      have t := conv_97 (mn := mn) (K := fun opn sent_1 now => if md_allReach wants (known ||| now) mo = true then (known ||| now, (sent + sent_1, nI (ycnt known 60) + md_many now, nI i + 1)) else md_converse_L69 wants mo mn k (i + 1) (known ||| now) (opn &&& (md_reach (known ||| now) mo ^^^ (-1))) (sent + sent_1, nI (ycnt known 60) + md_many now, nI i + 1)) h60 left mo.1 0 left 0 (Nat.le_refl _) (by decide) (fun _ _ => rfl)
      rw [show (nI 0) = 0 from rfl] at t
      rw [t]
      have z : (0 : Int64) ||| (yhi left mo.1 0 &&& mn.1 0) = yhi left mo.1 0 &&& mn.1 0 := by rw [yx_orC, yx_or0]
      rw [z, highest_eq h60 hl, Nat.zero_add]
      have hY := yhi_in left mo.1 0 (by omega)
      rw [jl_many (yin_mono hY h60), yhi_cnt left mo.1 0 h60, md_many_eq]
      have hN : yin (yhi left mo.1 0 &&& mn.1 0) mo.1 := yin_and hY
      have hk' : yin (known ||| (yhi left mo.1 0 &&& mn.1 0)) mo.1 := yin_or hk hN
      have hcnt : nI (ycnt known 60) + nI (ycnt (yhi left mo.1 0 &&& mn.1 0) 60) = nI (ycnt (known ||| (yhi left mo.1 0 &&& mn.1 0)) 60) := by
        rw [nI_add, ycnt_or 60 (fun q _ h1 => ?_)]
        have h2 := hd q h1
        rw [yx_and]
        cases h3 : yx (yhi left mo.1 0) q with
        | false => rfl
        | true =>
          rw [yhi_sub left mo.1 0 q (by omega) h3] at h2
          cases h2
      rw [hcnt, nI_1, ← eachR_eq HO]
      cases hE : st_eachReachesOne wants (known ||| (yhi left mo.1 0 &&& mn.1 0)) so with
      | true =>
        rw [if_pos rfl, talk_stop hE, jl_many (yin_mono hk' h60)]
      | false =>
        rw [if_neg (show ¬ false = true by decide), md_reach_eq h60, st_reachOfAll_eq HO hk', and_not2]
        refine talk_L HO k (i + 1) _ _ _ hk' (yin_and hl) (fun q hq => ?_) hE
        rw [yx_and]
        by_cases hq6 : q < 64
        · rw [yx_not _ hq6, yx_or]
          rw [yx_or, yx_and] at hq
          cases h3 : yx left q with
          | false => rfl
          | true =>
            cases h4 : yx known q with
            | true =>
              rw [hd q h4] at h3
              cases h3
            | false =>
              rw [h4, Bool.false_or] at hq
              cases h5 : yx (yhi left mo.1 0) q with
              | true => rfl
              | false =>
                rw [h5] at hq
                cases hq
        · rw [hl q (by omega)]
          rfl
end TK
end
section
/-! the pack -/
def dgc (a b : Int32) : Nat → Nat → Nat
  | 0, _ => 0
  | k + 1, i => (if (yishr a (nI (4 * i)) &&& 15) = (yishr b (nI (4 * i)) &&& 15) then 0 else 1) + dgc a b k (i + 1)
theorem ib_ext {x y : Int32} (h : ∀ i, i < 32 → x.toBitVec.getLsbD i = y.toBitVec.getLsbD i) : x = y := Int32.toBitVec_inj.1 (BitVec.eq_of_getLsbD_eq h)
theorem ib_sh : ∀ i, i < 8 → (((nI (4 * i)) &&& 31).toBitVec.smod 32).toNat = 4 * i := by decide +kernel
theorem ib_su : ∀ i, i < 8 → (((nI (4 * i)).toUInt32 &&& Int32.toUInt32 31).toBitVec % 32).toNat = 4 * i := by decide +kernel
theorem ib_15 (i : Nat) : (15 : Int32).toBitVec.getLsbD i = decide (i < 4) := by
  show (15#32).getLsbD i = _
  by_cases h : i < 4
  · rcases (show i = 0 ∨ i = 1 ∨ i = 2 ∨ i = 3 by omega) with rfl | rfl | rfl | rfl <;> decide
  · rw [decide_eq_false h]
    by_cases h2 : i < 32
    · have : ∀ j, j < 32 → ¬ j < 4 → (15#32).getLsbD j = false := by decide +kernel
      exact this i h2 h
    · exact BitVec.getLsbD_of_ge _ _ (by omega)
theorem ib_sr (a : Int32) {i : Nat} (h : i < 8) {j : Nat} (hj : j < 4) : (yishr a (nI (4 * i))).toBitVec.getLsbD j = a.toBitVec.getLsbD (4 * i + j) := by
  show (a.toBitVec.sshiftRight (((nI (4 * i)) &&& 31).toBitVec.smod 32).toNat).getLsbD j = _
  rw [ib_sh i h, BitVec.getLsbD_sshiftRight, decide_eq_false (show ¬ 32 ≤ j by omega), if_pos (show 4 * i + j < 32 by omega)]
  rfl
theorem ib_sl (a : Int32) {i : Nat} (h : i < 8) {j : Nat} : (yiushr a (nI (4 * i))).toBitVec.getLsbD j = a.toBitVec.getLsbD (4 * i + j) := by
  show (a.toBitVec >>> (((nI (4 * i)).toUInt32 &&& Int32.toUInt32 31).toBitVec % 32)).getLsbD j = _
  rw [BitVec.ushiftRight_eq', ib_su i h, BitVec.getLsbD_ushiftRight]
theorem ib_and (a b : Int32) (i : Nat) : (a &&& b).toBitVec.getLsbD i = (a.toBitVec.getLsbD i && b.toBitVec.getLsbD i) := BitVec.getLsbD_and
theorem ib_xor (a b : Int32) (i : Nat) : (a ^^^ b).toBitVec.getLsbD i = (a.toBitVec.getLsbD i ^^ b.toBitVec.getLsbD i) := BitVec.getLsbD_xor
theorem ib_0 (i : Nat) : (0 : Int32).toBitVec.getLsbD i = false := by
  show (0#32).getLsbD i = false
  exact BitVec.getLsbD_zero
theorem dig (a b : Int32) {i : Nat} (h : i < 8) : (yiushr (a ^^^ b) (nI (4 * i)) &&& 15) = 0 ↔ (yishr a (nI (4 * i)) &&& 15) = (yishr b (nI (4 * i)) &&& 15) := by
  constructor
  · intro h0
    apply ib_ext
    intro j _
    rw [ib_and, ib_and, ib_15]
    by_cases hj : j < 4
    · have t := congrArg (fun x : Int32 => x.toBitVec.getLsbD j) h0
      rw [ib_and, ib_15, ib_sl _ h, ib_xor, ib_0, decide_eq_true hj, Bool.and_true] at t
      rw [ib_sr a h hj, ib_sr b h hj]
      cases ha : a.toBitVec.getLsbD (4 * i + j) <;> cases hb : b.toBitVec.getLsbD (4 * i + j) <;> rw [ha, hb] at t <;> first | rfl | cases t
    · rw [decide_eq_false hj, Bool.and_false, Bool.and_false]
  · intro h0
    apply ib_ext
    intro j _
    rw [ib_and, ib_15, ib_0]
    by_cases hj : j < 4
    · have t := congrArg (fun x : Int32 => x.toBitVec.getLsbD j) h0
      rw [ib_and, ib_and, ib_15, decide_eq_true hj, Bool.and_true, Bool.and_true, ib_sr a h hj, ib_sr b h hj] at t
      rw [ib_sl _ h, ib_xor, t, decide_eq_true hj, Bool.and_true]
      cases b.toBitVec.getLsbD (4 * i + j) <;> rfl
    · rw [decide_eq_false hj, Bool.and_false]
theorem i_add0 (w : Int32) : w + 0 = w := Int32.add_zero w
theorem digits_L (a b : Int32) : ∀ (k i : Nat) (dg : Int32), i + k = 8 → pk_differingDigits_L9 k i (a ^^^ b) dg = dg + nI (dgc a b k i)
  | 0, i, dg, _ => by
    rw [pk_differingDigits_L9, dgc]
    exact (i_add0 dg).symm
  | k + 1, i, dg, h => by
    rw [pk_differingDigits_L9, dgc]
    by_cases hd : (yishr a (nI (4 * i)) &&& 15) = (yishr b (nI (4 * i)) &&& 15)
    · rw [if_pos ((dig a b (by omega)).mpr hd), if_pos hd, digits_L a b k (i + 1) dg (by omega), Nat.zero_add]
    · rw [if_neg (fun hh => hd ((dig a b (by omega)).mp hh)), if_neg hd, digits_L a b k (i + 1) (dg + 1) (by omega), ← nI_add, Int32.add_assoc]
      rfl
theorem digits_eq (a b : Int32) : pk_differingDigits a b = nI (dgc a b 8 0) := by
  unfold pk_differingDigits
  rw [digits_L a b 8 0 0 (by decide)]
  exact Int32.zero_add _
theorem place_142 {x q : Nat} {mo : MO} {mp : MP} {K : Int32 → MP} : ∀ (k i : Nat) (w : Int32), md_place_L142 x q mo mp K k i w = K (w + nI (dgc (mo.2.2.1 x) (mo.2.2.1 (mp.2.1 q % 60)) k i))
  | 0, i, w => by
    rw [md_place_L142, dgc, show nI 0 = 0 from rfl, i_add0]
  | k + 1, i, w => by
    rw [md_place_L142, dgc]
    by_cases hd : (yishr (mo.2.2.1 x) (nI (4 * i)) &&& 15) = (yishr (mo.2.2.1 (mp.2.1 q % 60)) (nI (4 * i)) &&& 15)
    · rw [if_pos hd, if_pos hd, place_142 k (i + 1), Nat.zero_add, i_add0]
    · rw [if_neg hd, if_neg hd, place_142 k (i + 1), ← nI_add, Int32.add_assoc]
      rfl
def wsum (w : Nat → Int32) : Nat → Int32
  | 0 => 0
  | i + 1 => wsum w i + w i
theorem wsum_congr {w w' : Nat → Int32} : ∀ n : Nat, (∀ i, i < n → w' i = w i) → wsum w' n = wsum w n
  | 0, _ => rfl
  | i + 1, h => by
    rw [wsum, wsum, wsum_congr i (fun j hj => h j (by omega)), h i (by omega)]
theorem weight_L (mp : MP) : ∀ (k i : Nat), md_weight_L4 mp k i (wsum mp.2.2.2.2 i) = wsum mp.2.2.2.2 (i + k)
  | 0, i => rfl
  | k + 1, i => by
    rw [md_weight_L4, show wsum mp.2.2.2.2 i + mp.2.2.2.2 i = wsum mp.2.2.2.2 (i + 1) from rfl, weight_L mp k (i + 1), show i + 1 + k = i + (k + 1) by omega]
theorem weight_eq (mp : MP) : md_weight mp = wsum mp.2.2.2.2 mp.1 := by
  unfold md_weight
  have t := weight_L mp mp.1 0
  rw [Nat.zero_add] at t
  exact t
/-- the two packs -/
def PCK (pk : PS) (mp : MP) : Prop := pk.1 = (fun j => nI (mp.2.1 j % 60)) ∧ pk.2.1 = mp.2.2.1 ∧ pk.2.2.1 = mp.2.2.2.1 ∧ pk.2.2.2.2.1 = mp.1 ∧ mp.1 ≤ 60 ∧ pk.2.2.2.2.2 = wsum mp.2.2.2.2 mp.1
section PK
variable {so : SS} {mo : MO}
theorem isOfKind_nI (HO : OBJ so mo) {a : Nat} (ha : a < mo.1) (kd : Int32) : st_isOfKind (nI a) kd so = if mo.2.1 a = kd then true else false := by
  have h60 := HO.2.1
  unfold st_isOfKind st_isNumber
  simp only [yb]
  rw [HO.1, if_neg (nI_pos (by omega)), if_neg (nI_ge ha (by omega)), if_pos rfl, nI_clamp (by omega), HO.2.2.1]
theorem isOfKind_big (HO : OBJ so mo) {a : Nat} (ha : mo.1 ≤ a) (h : a < 100) (kd : Int32) : st_isOfKind (nI a) kd so = false := by
  unfold st_isOfKind st_isNumber
  simp only [yb]
  rw [HO.1, if_neg (nI_pos (by omega)), if_pos (nI_le ha (by omega)), if_neg (by decide)]
theorem contentOf_nI (HO : OBJ so mo) {a : Nat} (ha : a < mo.1) : st_contentOf (nI a) so = mo.2.2.1 a := by
  have h60 := HO.2.1
  unfold st_contentOf st_isNumber
  simp only [yb]
  rw [HO.1, if_neg (nI_pos (by omega)), if_neg (nI_ge ha (by omega)), if_pos rfl, nI_clamp (by omega), HO.2.2.2.1]
theorem choose_L (HO : OBJ so mo) {x pl : Nat} {at_ : Nat → Nat} {me : Int64} {sz ms : Nat} {to : Int32} (hk : mo.2.1 x = 0) (hat : ∀ j, j < pl → at_ j % 60 < mo.1) : ∀ (q : Nat) (ba ch we : Nat → Int32), q ≤ pl → ∃ ba' ch' we', pk_chooseBase_L20 pl so q (we pl) (mo.2.2.1 x) ((fun j => nI (at_ j % 60)), ba, ch, me, sz, to) = (we' pl, (fun j => nI (at_ j % 60)), ba', ch', me, sz, to) ∧ md_place_L92 x mo q pl (ms, at_, ba, ch, we) = (ms, at_, ba', ch', we') ∧ (∀ j, j ≠ pl → we' j = we j)
  | 0, ba, ch, we, _ => ⟨ba, ch, we, rfl, rfl, fun _ _ => rfl⟩
  | q + 1, ba, ch, we, hq => by
    rw [pk_chooseBase_L20, md_place_L92]
    dsimp only
    by_cases h3 : nI q < nI pl - 3
    · rw [if_pos h3, if_pos h3]
      exact ⟨ba, ch, we, rfl, rfl, fun _ _ => rfl⟩
    · have ha := hat q (by omega)
      simp only [yb]
      rw [if_neg h3, if_neg h3, if_pos hk, isOfKind_nI HO ha, contentOf_nI HO ha]
      by_cases hk2 : mo.2.1 (at_ q % 60) = 0
      · rw [if_pos hk2, if_pos hk2, if_pos rfl]
        by_cases hc : 2 ≤ ch q
        · rw [if_pos hc, if_pos hc]
          exact choose_L HO hk hat q ba ch we (by omega)
        · rw [if_neg hc, if_neg hc, place_142, digits_eq]
          dsimp only
          by_cases hw : we pl ≤ 2 + nI (dgc (mo.2.2.1 x) (mo.2.2.1 (at_ q % 60)) 8 0)
          · rw [if_pos hw, if_pos hw]
            exact choose_L HO hk hat q ba ch we (by omega)
          · rw [if_neg hw, if_neg hw]
            obtain ⟨ba', ch', we', a1, a2, a3⟩ := choose_L HO (me := me) (sz := sz) (ms := ms) (to := to) hk hat q (upd ba pl (nI q)) (upd ch pl (ch q + 1)) (upd we pl (2 + nI (dgc (mo.2.2.1 x) (mo.2.2.1 (at_ q % 60)) 8 0))) (by omega)
            rw [upd_at] at a1
            exact ⟨ba', ch', we', a1, a2, fun j hj => (a3 j hj).trans (upd_ne _ _ hj)⟩
      · rw [if_neg hk2, if_neg hk2, if_neg (show ¬ false = true by decide)]
        exact choose_L HO hk hat q ba ch we (by omega)
theorem place_other {x pl : Nat} (hk : ¬ mo.2.1 x = 0) : ∀ (q : Nat) (mp : MP), md_place_L92 x mo q pl mp = mp
  | 0, mp => rfl
  | q + 1, mp => by
    rw [md_place_L92]
    split
    · rfl
    · exact place_other hk q mp
theorem ob_upd {at_ : Nat → Nat} {sz x : Nat} (hx : x < 60) : upd (fun j => nI (at_ j % 60)) sz (nI x) = fun j => nI (yupN at_ sz x j % 60) := by
  funext j
  by_cases hj : j = sz
  · rw [hj, upd_at, yupN_at, Nat.mod_eq_of_lt hx]
  · rw [upd_ne _ _ hj, yupN_ne _ _ hj]
/-- one object placed -/
theorem pl_one (HO : OBJ so mo) {x kk : Nat} {pk : PS} {mp : MP} (hx : x < mo.1) (P : PCK pk mp) (hs : mp.1 < 60) (hat : ∀ j, j < mp.1 → mp.2.1 j % 60 < mo.1) (hkx : mo.2.1 x = nI kk) (hkk : kk < 3) :
    ∃ pk', (if nI kk = 0 then (yb (pk_chooseBase pk.2.2.2.2.1 (upd pk.1 pk.2.2.2.2.1 (nI x), upd pk.2.1 pk.2.2.2.2.1 (-4), upd pk.2.2.1 pk.2.2.2.2.1 0, pk.2.2.2.1, pk.2.2.2.2.1, pk.2.2.2.2.2) so) fun r8 => ((r8.2.1, r8.2.2.1, r8.2.2.2.1, r8.2.2.2.2.1, pk.2.2.2.2.1 + 1, (pk.2.2.2.2.2 + r8.1)) : PS)) else (yb (st_partsOf (nI x) so) fun r7 => ((upd pk.1 pk.2.2.2.2.1 (nI x), upd pk.2.1 pk.2.2.2.2.1 (-4), upd pk.2.2.1 pk.2.2.2.2.1 0, pk.2.2.2.1, pk.2.2.2.2.1 + 1, (pk.2.2.2.2.2 + (1 + r7))) : PS))) = pk' ∧ PCK pk' (md_place x mo mp) ∧ pk'.2.2.2.1 = pk.2.2.2.1 ∧ (∀ j, j < mp.1 + 1 → (md_place x mo mp).2.1 j % 60 < mo.1) := by
  have h60 := HO.2.1
  obtain ⟨ob, ba, ch, me, sz, to⟩ := pk
  obtain ⟨ms, at_, bs, cn, we⟩ := mp
  unfold PCK at P
  dsimp only at P hs hat
  obtain ⟨p1, p2, p3, p4, p5, p6⟩ := P
  subst p1
  subst p2
  subst p3
  subst p4
  subst p6
  dsimp only
  have hat2 : ∀ j, j < sz + 1 → yupN at_ sz x j % 60 < mo.1 := by
    intro j hj
    by_cases hjs : j = sz
    · rw [hjs, yupN_at, Nat.mod_eq_of_lt (by omega)]
      exact hx
    · rw [yupN_ne _ _ hjs]
      exact hat j (by omega)
  by_cases hk0 : kk = 0
  · subst hk0
    have hkz : mo.2.1 x = 0 := hkx
    rw [if_pos (show nI 0 = 0 from rfl), pk_chooseBase]
    simp only [yb]
    rw [upd_at, contentOf_nI HO hx, ob_upd (by omega)]
    obtain ⟨ba', ch', we', a1, a2, a3⟩ := choose_L HO (x := x) (pl := sz) (at_ := yupN at_ sz x) (me := me) (sz := sz) (ms := sz + 1) (to := wsum we sz) hkz (fun j hj => hat2 j (by omega)) sz (upd ba sz (-4)) (upd ch sz 0) (upd we sz 8) (Nat.le_refl _)
    rw [upd_at] at a1
    rw [a1, md_place]
    dsimp only
    rw [if_pos hkz, a2]
    refine ⟨_, rfl, ⟨rfl, rfl, rfl, rfl, by show sz + 1 ≤ 60; omega, ?_⟩, rfl, hat2⟩
    show wsum we sz + we' sz = wsum we' (sz + 1)
    rw [wsum, wsum_congr (w := we) (w' := we') sz (fun i hi => (a3 i (by omega)).trans (upd_ne _ _ (by omega)))]
  · have hkn : ¬ nI kk = 0 := fun hh => hk0 ((pw_0 kk (by omega)).mp hh)
    have hkz : ¬ mo.2.1 x = 0 := by rw [hkx]; exact hkn
    have hv := HO.2.2.2.2.2.2.1 x hx
    rcases hv with hv | ⟨_, _, v2, v3⟩
    · exact absurd hv hkz
    · rw [if_neg hkn]
      simp only [yb]
      have hpart : st_partsOf (nI x) so = (if mo.2.2.2.1 x = -1 then (if mo.2.2.2.2 x = -1 then ((1 + 0) + 0 : Int32) else ((1 + 0) + 1)) else (if mo.2.2.2.2 x = -1 then ((1 + 1) + 0) else ((1 + 1) + 1))) := by
        unfold st_partsOf st_isNumber
        simp only [yb]
        rw [HO.1, if_neg (nI_pos (by omega)), if_neg (nI_ge hx (by omega)), if_pos rfl, nI_clamp (by omega), HO.2.2.1, HO.2.2.2.2.1, HO.2.2.2.2.2.1, if_neg hkz]
      rw [hpart, ob_upd (by omega), md_place]
      dsimp only
      rw [if_neg hkz]
      have wend : ∀ w : Int32, PCK ((fun j => nI (yupN at_ sz x j % 60)), upd ba sz (-4), upd ch sz 0, me, sz + 1, wsum we sz + w) (sz + 1, yupN at_ sz x, upd ba sz (-4), upd ch sz 0, upd we sz w) := by
        intro w
        refine ⟨rfl, rfl, rfl, rfl, by show sz + 1 ≤ 60; omega, ?_⟩
        show wsum we sz + w = wsum (upd we sz w) (sz + 1)
        rw [wsum, upd_at, wsum_congr (w := we) (w' := upd we sz w) sz (fun i hi => upd_ne _ _ (by omega))]
      have neg : ∀ f : Int32, (f = -1 ∨ ∃ b, b < x ∧ f = nI b) → (f < 0 ↔ f = -1) := by
        intro f hf
        rcases hf with hf | ⟨b, hb, hf⟩
        · rw [hf]
          exact ⟨fun _ => rfl, fun _ => by decide⟩
        · constructor
          · intro h1
            rw [hf] at h1
            exact absurd h1 (nI_pos (by omega))
          · intro h1
            rw [h1]
            decide
      by_cases t2 : mo.2.2.2.1 x = -1
      · rw [if_pos t2, if_pos ((neg _ v2).mpr t2)]
        by_cases t3 : mo.2.2.2.2 x = -1
        · rw [if_pos t3, if_pos ((neg _ v3).mpr t3), place_other hkz]
          exact ⟨_, rfl, wend _, rfl, hat2⟩
        · rw [if_neg t3, if_neg (fun hh => t3 ((neg _ v3).mp hh)), place_other hkz]
          exact ⟨_, rfl, wend _, rfl, hat2⟩
      · rw [if_neg t2, if_neg (fun hh => t2 ((neg _ v2).mp hh))]
        by_cases t3 : mo.2.2.2.2 x = -1
        · rw [if_pos t3, if_pos ((neg _ v3).mpr t3), place_other hkz]
          exact ⟨_, rfl, wend _, rfl, hat2⟩
        · rw [if_neg t3, if_neg (fun hh => t3 ((neg _ v3).mp hh)), place_other hkz]
          exact ⟨_, rfl, wend _, rfl, hat2⟩
theorem pack_none {set : Int64} {kk : Nat} {K : MP → MP} {mp : MP} : ∀ x : Nat, kcnt mo.2.1 kk x = 0 → md_pack_L19 set kk mo K x mp = K mp
  | 0, _ => rfl
  | x + 1, h => by
    rw [kcnt] at h
    have hn : ¬ mo.2.1 x = nI kk := fun hh => by
      rw [if_pos hh] at h
      omega
    rw [md_pack_L19, if_neg hn]
    split
    · exact pack_none x (by omega)
    · exact pack_none x (by omega)
theorem kind_skip (HO : OBJ so mo) {kd : Int32} {pk : PS} : ∀ d : Nat, mo.1 + d ≤ 60 → pk_placeKind_L3 kd so (mo.1 + d) pk = pk_placeKind_L3 kd so mo.1 pk
  | 0, _ => rfl
  | d + 1, h => by
    rw [show mo.1 + (d + 1) = (mo.1 + d) + 1 by omega, pk_placeKind_L3]
    simp only [yb]
    by_cases h60 : 60 ≤ nI pk.2.2.2.2.1
    · rw [if_pos h60]
      cases hm : mo.1 with
      | zero => rfl
      | succ m => rw [pk_placeKind_L3, if_pos h60]
    · rw [if_neg h60, isOfKind_big HO (by omega) (by omega), if_neg (show ¬ false = true by decide), kind_skip HO d (by omega), ite_self]
theorem kind_L (HO : OBJ so mo) {set : Int64} {kk : Nat} {K : MP → MP} (hkk : kk < 3) : ∀ (x : Nat) (pk : PS) (mp : MP), x ≤ mo.1 → PCK pk mp → pk.2.2.2.1 = set → (∀ j, j < mp.1 → mp.2.1 j % 60 < mo.1) → yc19 mo kk x mp.1 → ∃ mp', md_pack_L19 set kk mo K x mp = K mp' ∧ PCK (pk_placeKind_L3 (nI kk) so x pk) mp' ∧ (pk_placeKind_L3 (nI kk) so x pk).2.2.2.1 = set ∧ (∀ j, j < mp'.1 → mp'.2.1 j % 60 < mo.1) ∧ yc7 mo kk mp'.1
  | 0, pk, mp, _, P, e, ha, hc => ⟨mp, rfl, P, e, ha, yc19_7 hc⟩
  | x + 1, pk, mp, hx, P, e, ha, hc => by
    have h60 := HO.2.1
    have e4 : pk.2.2.2.2.1 = mp.1 := P.2.2.2.1
    by_cases hf : 60 ≤ nI pk.2.2.2.2.1
    · have hs : mp.1 = 60 := by
        have hle := P.2.2.2.2.1
        rw [e4] at hf
        have := (nI_leI (a := 60) (by decide) (by omega)).mp hf
        omega
      have hz : kcnt mo.2.1 kk (x + 1) = 0 := by
        unfold yc19 at hc
        omega
      have hcz : yc7 mo kk mp.1 := by
        unfold yc19 at hc
        unfold yc7
        omega
      rw [pk_placeKind_L3, if_pos hf]
      exact ⟨mp, pack_none (x + 1) hz, P, e, ha, hcz⟩
    · rw [pk_placeKind_L3, if_neg hf, md_pack_L19]
      rw [e]
      have skip := kind_L HO (set := set) (K := K) hkk x pk mp (by omega) P e ha (yc19_s hc)
      rw [px_isIn_nI (by omega), isOfKind_nI HO (by omega)]
      by_cases hb : yx set x = true
      · rw [if_pos ((yx_shr_1 set (by omega)).mpr hb), hb]
        by_cases hk : mo.2.1 x = nI kk
        · rw [if_pos hk, if_pos hk]
          obtain ⟨pk', a1, a2, a3, a4⟩ := pl_one HO (by omega) P (yc19_p hc hk).1 ha hk hkk
          have go := kind_L HO (set := set) (K := K) hkk x pk' (md_place x mo mp) (by omega) a2 (a3.trans e) (by rw [md_place_size]; exact a4) (by rw [md_place_size]; exact (yc19_p hc hk).2)
          simp only [yb] at a1 ⊢
          rw [if_pos trivial, if_pos trivial]
          by_cases hk0 : nI kk = 0
          · rw [if_pos hk0] at a1 ⊢
            rw [← a1, e] at go
            exact go
          · rw [if_neg hk0] at a1 ⊢
            rw [← a1, e] at go
            exact go
        · simp only [yb]
          rw [if_neg hk, if_neg hk, if_pos trivial, if_neg (show ¬ false = true by decide)]
          exact skip
      · simp only [yb]
        rw [if_neg (fun hh => hb ((yx_shr_1 set (by omega)).mp hh)), if_neg hb]
        exact skip
theorem fill_pack (HO : OBJ so mo) {set : Int64} {pk : PS} {mp : MP} (P : PCK pk mp) : PCK (pk_fill set pk so) (md_pack set mo mp) ∧ (pk_fill set pk so).2.2.2.1 = set := by
  have h60 := HO.2.1
  obtain ⟨p1, p2, p3, p4, p5, p6⟩ := P
  have kp : ∀ (kd : Int32) (pk : PS), pk_placeKind kd pk so = pk_placeKind_L3 kd so mo.1 pk := by
    intro kd pk
    have t := kind_skip HO (kd := kd) (pk := pk) (60 - mo.1) (by omega)
    rw [show mo.1 + (60 - mo.1) = 60 by omega] at t
    exact t
  unfold pk_fill md_pack
  simp only [yb]
  rw [kp, kp, kp]
  obtain ⟨m2, b1, b2, b3, b4, b5⟩ := kind_L HO (set := set) (kk := 2) (K := fun mp => md_pack_L7 set mo 2 mp) (by decide) mo.1 (pk.1, pk.2.1, pk.2.2.1, set, 0, 0) (0, mp.2.1, mp.2.2.1, mp.2.2.2.1, mp.2.2.2.2) (Nat.le_refl _) ⟨p1, p2, p3, rfl, by show 0 ≤ 60; omega, rfl⟩ rfl (fun j hj => absurd hj (by show ¬ j < 0; omega)) (yc7_19 (yc7_0 h60))
  obtain ⟨m1, c1, c2, c3, c4, c5⟩ := kind_L HO (set := set) (kk := 1) (K := fun mp => md_pack_L7 set mo 1 mp) (by decide) mo.1 _ m2 (Nat.le_refl _) b2 b3 b4 (yc7_19 b5)
  obtain ⟨m0, d1, d2, d3, d4, d5⟩ := kind_L HO (set := set) (kk := 0) (K := fun mp => md_pack_L7 set mo 0 mp) (by decide) mo.1 _ m1 (Nat.le_refl _) c2 c3 c4 (yc7_19 c5)
  have e : md_pack_L7 set mo 3 (0, mp.2.1, mp.2.2.1, mp.2.2.2.1, mp.2.2.2.2) = m0 := by
    rw [md_pack_L7, b1, md_pack_L7, c1, md_pack_L7, d1]
    rfl
  rw [e]
  exact ⟨d2, d3⟩
end PK
end
section
/-! the calls, one by one: the same answers, and the states stay alike -/
def REL (so : SS) (tk : TS) (pk : PS) (vd : Nat → Int32) (ns : Nat → NS) (mo : MO) (mn : MN) (mt : MT) (mv : Nat → Int32) (mp : MP) : Prop := OBJ so mo ∧ (∀ k, k < 3 → NOD (ns k) mn k mo.1 ∧ UPK (ns k)) ∧ tk = mt ∧ PCK pk mp ∧ vd = mv
theorem yupF_at {α : Type} (f : Nat → α) (k : Nat) (v : α) : yupF f k v k = v := by simp [yupF]
theorem yupF_o {α : Type} (f : Nat → α) {k j : Nat} (v : α) (h : j ≠ k) : yupF f k v j = f j := by simp [yupF, h]
theorem isNode_eq (x : Int32) : px_isNode x = md_isNode x := by
  unfold px_isNode md_isNode
  have e : (3 : Int32) ≤ x ↔ 2 < x := by
    rw [yy_lei, yy_lti]
    have e3 : (3 : Int32).toInt = 3 := rfl
    have e2 : (2 : Int32).toInt = 2 := rfl
    omega
  by_cases h0 : x < 0
  · rw [if_pos h0, if_pos h0]
  · rw [if_neg h0, if_neg h0]
    by_cases h3 : (3 : Int32) ≤ x
    · rw [if_pos h3, if_pos (e.mp h3)]
    · rw [if_neg h3, if_neg (fun hh => h3 (e.mpr hh))]
theorem isOwn_eq (x : Int32) {α : Type} (a b : α) : (if px_isOwnReference x = true then a else b) = if x < 0 then b else if x ≤ 3 then a else b := by
  unfold px_isOwnReference
  have e : (4 : Int32) ≤ x ↔ ¬ x ≤ 3 := by
    rw [yy_lei, yy_lei]
    have e3 : (3 : Int32).toInt = 3 := rfl
    have e2 : (4 : Int32).toInt = 4 := rfl
    omega
  by_cases h0 : x < 0
  · rw [if_pos h0, if_pos h0, if_neg (by decide)]
  · rw [if_neg h0, if_neg h0]
    by_cases h3 : x ≤ 3
    · rw [if_pos h3, if_neg (fun hh => (e.mp hh) h3), if_pos rfl]
    · rw [if_neg h3, if_pos (e.mpr h3), if_neg (by decide)]
theorem valueOf_nI {nd : NS} {r : Nat} (h : r < 8) : nd_valueOf (nI r) nd = nd.1 r := by
  unfold nd_valueOf
  rw [if_neg (nI_pos (by omega)), if_neg (show ¬ (8 : Int32) ≤ nI r from nI_ge (b := 8) h (by decide)), nI_clamp (by omega)]
theorem isIn_has {x : Int64} {mo : MO} {mn : MN} {k : Nat} (ho : mo.1 ≤ 60) (e : x = mn.1 k) (hi : yin x mo.1) (num : Int32) : px_isIn x num = md_has k num mo mn := by
  by_cases h0 : num < 0
  · unfold px_isIn md_has
    rw [if_pos h0, if_pos h0]
  · obtain ⟨j, hj, rfl⟩ := nI_of h0
    by_cases h1 : j < mo.1
    · rw [px_isIn_nI (by omega), md_has_nI h1 ho, e]
    · have m : md_has k (nI j) mo mn = false := by
        unfold md_has
        rw [if_neg h0, if_pos (nI_le (by omega) hj)]
      rw [m]
      by_cases h2 : j < 60
      · rw [px_isIn_nI h2]
        exact hi j (by omega)
      · unfold px_isIn
        rw [if_neg h0, if_pos (show (60 : Int32) ≤ nI j from nI_le (a := 60) (by omega) hj)]
theorem has_lt {mo : MO} {mn : MN} {k : Nat} {num : Int32} (ho : mo.1 ≤ 60) (h : md_has k num mo mn = true) : ∃ j, j < mo.1 ∧ num = nI j := by
  unfold md_has at h
  split at h
  · cases h
  · rename_i h0
    obtain ⟨j, hj, rfl⟩ := nI_of h0
    split at h
    · cases h
    · rename_i h1
      refine ⟨j, ?_, rfl⟩
      by_cases h2 : j < mo.1
      · exact h2
      · exact absurd (nI_le (by omega) hj) h1
section RO
variable {so : SS} {tk : TS} {pk : PS} {vd tg : Nat → Int32} {ns : Nat → NS} {mo : MO} {mn : MN} {mw : MW} {mt : MT} {mv : Nat → Int32} {mp : MP}
theorem holdsKind_eq (HO : OBJ so mo) {nd : NS} {k : Nat} (H : NOD nd mn k mo.1) (num kd : Int32) : px_holdsKind num kd so nd = if md_has k num mo mn = true then (if mo.2.1 num.toNatClampNeg = kd then true else false) else false := by
  have h60 := HO.2.1
  have hI : px_isIn (nd_heldSet nd) num = md_has k num mo mn := isIn_has (k := k) (mn := mn) h60 H.2.2.2.2.1 (by rw [H.2.2.2.2.1]; exact H.2.2.2.2.2) num
  unfold px_holdsKind
  simp only [yb]
  rw [hI]
  by_cases hh : md_has k num mo mn = true
  · obtain ⟨j, hj, rfl⟩ := has_lt h60 hh
    rw [if_pos hh, if_pos hh, isOfKind_nI HO hj, nI_clamp (by omega)]
    by_cases hk : mo.2.1 j = kd
    · rw [if_pos hk, if_pos rfl]
    · rw [if_neg hk, if_neg (by decide)]
  · rw [if_neg hh, if_neg hh]
theorem isEntry_eq (HO : OBJ so mo) {nd : NS} {k : Nat} (H : NOD nd mn k mo.1) (num : Int32) : px_isEntry num so nd = md_entry k num mo mn := by
  have h60 := HO.2.1
  unfold px_isEntry md_entry
  simp only [yb]
  rw [holdsKind_eq HO H, holdsKind_eq HO H]
  by_cases hh : md_has k num mo mn = true
  · obtain ⟨j, hj, rfl⟩ := has_lt h60 hh
    rw [if_pos hh, if_pos hh, if_pos hh, nI_clamp (by omega)]
    rcases HO.2.2.2.2.2.2.1 j hj with hv | ⟨hv | hv, _⟩
    · rw [hv]
      decide
    · rw [hv]
      decide
    · rw [hv]
      decide
  · rw [if_neg hh, if_neg hh, if_neg hh]
    rfl
theorem REL_node (R : REL so tk pk vd ns mo mn mt mv mp) {k : Nat} {so' : SS} {mo' : MO} {mn' : MN} {nd' : NS} (HO : OBJ so' mo') (hle : mo.1 ≤ mo'.1) (N : NOD nd' mn' k mo'.1) (U : UPK nd') (A : ∀ q, q ≠ k → AGR mn mn' q) : REL so' tk pk vd (yupF ns k nd') mo' mn' mt mv mp := by
  obtain ⟨_, RN, r1, r2, r3⟩ := R
  refine ⟨HO, fun q hq => ?_, r1, r2, r3⟩
  by_cases hk : q = k
  · subst hk
    rw [yupF_at]
    exact ⟨N, U⟩
  · rw [yupF_o _ _ hk]
    exact ⟨NOD_mono hle (NOD_agr (A q hk) (RN q hq).1), (RN q hq).2⟩
theorem dark_up {nd : NS} {k n : Nat} (H : NOD nd mn k n) (h : mn.2.2.1 k = true) : nd_isUp nd = false := by
  show nd.2.2.2.2.2.1 = false
  rw [H.2.1.1, h]
  rfl
theorem lit_up {nd : NS} {k n : Nat} (H : NOD nd mn k n) (h : ¬ mn.2.2.1 k = true) : nd_isUp nd = true := by
  show nd.2.2.2.2.2.1 = true
  rw [H.2.1.1, (Bool.not_eq_true _).mp h]
  rfl
theorem rel_blob (R : REL so tk pk vd ns mo mn mt mv mp) (node content : Int32) : (x_blob node content so ns).1 = (md_blob node content mo mn).1 ∧ REL (x_blob node content so ns).2.1 tk pk vd (x_blob node content so ns).2.2 (md_blob node content mo mn).2.1 (md_blob node content mo mn).2.2 mt mv mp := by
  unfold x_blob md_blob
  simp only [yb]
  rw [isNode_eq]
  by_cases hN : md_isNode node = true
  · obtain ⟨k, hc, hk, _⟩ := md_isNode_nat rfl hN
    obtain ⟨N, U⟩ := R.2.1 k hk
    simp only [if_pos hN, yn, hc]
    by_cases hd : mn.2.2.1 k = true
    · rw [dark_up N hd, if_pos hd, if_neg (show ¬ false = true by decide)]
      exact ⟨(by first | rfl | trivial), R⟩
    · have hu := lit_up N hd
      rw [hu, if_pos rfl, if_neg hd]
      obtain ⟨x, so', nd', mo', mn', e1, e2, a1, a2, a3, a4, a5, _⟩ := n_make R.1 N U hu (kd := 0) (f1 := content) (f2 := -1) (f3 := -1) (Or.inl rfl)
      rw [e1, e2]
      exact ⟨rfl, REL_node R a1 a5 a2 a3 a4⟩
  · simp only [if_neg hN]
    exact ⟨(by first | rfl | trivial), R⟩
theorem entry_lt (HO : OBJ so mo) {k : Nat} {num : Int32} (h : md_entry k num mo mn = true) : ∃ j, j < mo.1 ∧ num = nI j := by
  unfold md_entry at h
  simp only [yb] at h
  split at h
  · exact has_lt HO.2.1 ‹_›
  · cases h
theorem rel_tree (R : REL so tk pk vd ns mo mn mt mv mp) (node f1 f2 : Int32) : (x_tree node f1 f2 so ns).1 = (md_tree node f1 f2 mo mn).1 ∧ REL (x_tree node f1 f2 so ns).2.1 tk pk vd (x_tree node f1 f2 so ns).2.2 (md_tree node f1 f2 mo mn).2.1 (md_tree node f1 f2 mo mn).2.2 mt mv mp := by
  unfold x_tree md_tree
  simp only [yb]
  rw [isNode_eq]
  by_cases hN : md_isNode node = true
  · obtain ⟨k, hc, hk, _⟩ := md_isNode_nat rfl hN
    obtain ⟨N, U⟩ := R.2.1 k hk
    simp only [if_pos hN, yn, hc]
    by_cases hd : mn.2.2.1 k = true
    · rw [dark_up N hd, if_pos hd, if_neg (show ¬ false = true by decide)]
      exact ⟨(by first | rfl | trivial), R⟩
    · have hu := lit_up N hd
      rw [hu, if_pos rfl, if_neg hd, isEntry_eq R.1 N, isEntry_eq R.1 N]
      by_cases h1 : md_entry k f1 mo mn = true
      · rw [if_pos h1, if_pos h1]
        obtain ⟨a, ha, ea⟩ := entry_lt R.1 h1
        by_cases h2 : f2 = -1
        · rw [if_pos h2, if_pos h2]
          obtain ⟨x, so', nd', mo', mn', e1, e2, a1, a2, a3, a4, a5, _⟩ := n_make R.1 N U hu (kd := 1) (f1 := f1) (f2 := f2) (f3 := -1) (Or.inr ⟨Or.inl rfl, ⟨a, ha, ea⟩, Or.inl h2, Or.inl rfl⟩)
          rw [e1, e2]
          exact ⟨rfl, REL_node R a1 a5 a2 a3 a4⟩
        · rw [if_neg h2, if_neg h2]
          by_cases h3 : md_entry k f2 mo mn = true
          · rw [if_pos h3, if_pos h3]
            obtain ⟨x, so', nd', mo', mn', e1, e2, a1, a2, a3, a4, a5, _⟩ := n_make R.1 N U hu (kd := 1) (f1 := f1) (f2 := f2) (f3 := -1) (Or.inr ⟨Or.inl rfl, ⟨a, ha, ea⟩, Or.inr (entry_lt R.1 h3), Or.inl rfl⟩)
            rw [e1, e2]
            exact ⟨rfl, REL_node R a1 a5 a2 a3 a4⟩
          · rw [if_neg h3, if_neg h3]
            exact ⟨(by first | rfl | trivial), R⟩
      · rw [if_neg h1, if_neg h1]
        exact ⟨(by first | rfl | trivial), R⟩
  · simp only [if_neg hN]
    exact ⟨(by first | rfl | trivial), R⟩
theorem aim_one {rn v n : Nat} (hr : rn < 8) (hv : v ≤ n) : ylP (px_aimAtOne rn (nI v - 1) tg) (md_wish rn (nI v) (0, mw.2.1, mw.2.2)).2.1 (md_wish rn (nI v) (0, mw.2.1, mw.2.2)).2.2 0 n 8 1 := by
  have e : px_aimAtOne rn (nI v - 1) tg = upd (px_clearTargets tg) rn (nI v - 1) := rfl
  rw [e]
  have h1 : ylP (upd (px_clearTargets tg) rn (nI v - 1)) (md_wish rn (nI v) (0, mw.2.1, mw.2.2)).2.1 (md_wish rn (nI v) (0, mw.2.1, mw.2.2)).2.2 0 n (rn + 1) 1 := by
    rw [ylP]
    refine Or.inr ⟨0, v, rfl, hv, ?_, ?_, upd_at _ _ _, ylP_nil rn (fun i hi => ?_)⟩
    · show yupN mw.2.1 0 rn (0 + 0) % 8 = rn
      rw [Nat.add_zero, yupN_at]
      omega
    · show upd mw.2.2 0 (nI v) (0 + 0) = nI v
      rw [Nat.add_zero, upd_at]
    · rw [upd_ne _ _ (by omega)]
      exact clr_8 tg i (by omega)
  have h2 := ylP_pad h1 (8 - (rn + 1)) (fun i h3 h4 => by rw [upd_ne _ _ (by omega)]; exact clr_8 tg i (by omega))
  rw [show rn + 1 + (8 - (rn + 1)) = 8 by omega] at h2
  exact h2
theorem commit_tail (R : REL so tk pk vd ns mo mn mt mv mp) {k rn : Nat} (hk : k < 3) (hr : rn < 4) (hu : nd_isUp (ns k) = true) {a b c : Int32} (hV : VN 2 a b c mo.1) :
    ∃ (z : Int32) (so' : SS) (tg' : Nat → Int32) (ns' : Nat → NS) (mo' : MO) (mn' : MN) (mw' : MW), (if 0 ≤ (px_writeObject 2 a b c so (ns k)).1 then (if (nd_transact (px_writeObject 2 a b c so (ns k)).2.2 (px_aimAtOne rn (px_writeObject 2 a b c so (ns k)).1 tg)).1 = true then ((px_writeObject 2 a b c so (ns k)).1, (px_writeObject 2 a b c so (ns k)).2.1, (px_aimAtOne rn (px_writeObject 2 a b c so (ns k)).1 tg), (yupF ns k (nd_transact (px_writeObject 2 a b c so (ns k)).2.2 (px_aimAtOne rn (px_writeObject 2 a b c so (ns k)).1 tg)).2)) else ((-2), (px_writeObject 2 a b c so (ns k)).2.1, (px_aimAtOne rn (px_writeObject 2 a b c so (ns k)).1 tg), (yupF ns k (nd_transact (px_writeObject 2 a b c so (ns k)).2.2 (px_aimAtOne rn (px_writeObject 2 a b c so (ns k)).1 tg)).2))) else ((px_writeObject 2 a b c so (ns k)).1, (px_writeObject 2 a b c so (ns k)).2.1, tg, (yupF ns k (px_writeObject 2 a b c so (ns k)).2.2))) = (z, so', tg', ns') ∧
      (if 0 ≤ (md_make k 2 a b c mo mn).1 then (if (md_transact k (md_make k 2 a b c mo mn).2.2 (md_wish rn ((md_make k 2 a b c mo mn).1 + 1) (0, mw.2.1, mw.2.2))).1 = true then ((md_make k 2 a b c mo mn).1, (md_make k 2 a b c mo mn).2.1, (md_transact k (md_make k 2 a b c mo mn).2.2 (md_wish rn ((md_make k 2 a b c mo mn).1 + 1) (0, mw.2.1, mw.2.2))).2, (md_wish rn ((md_make k 2 a b c mo mn).1 + 1) (0, mw.2.1, mw.2.2))) else ((-2), (md_make k 2 a b c mo mn).2.1, (md_transact k (md_make k 2 a b c mo mn).2.2 (md_wish rn ((md_make k 2 a b c mo mn).1 + 1) (0, mw.2.1, mw.2.2))).2, (md_wish rn ((md_make k 2 a b c mo mn).1 + 1) (0, mw.2.1, mw.2.2)))) else ((md_make k 2 a b c mo mn).1, (md_make k 2 a b c mo mn).2.1, (md_make k 2 a b c mo mn).2.2, mw)) = (z, mo', mn', mw') ∧ REL so' tk pk vd ns' mo' mn' mt mv mp := by
  obtain ⟨N, U⟩ := R.2.1 k hk
  obtain ⟨x, so', nd', mo', mn', e1, e2, a1, a2, a3, a4, a5, a6⟩ := n_make R.1 N U hu hV
  rw [e1, e2]
  dsimp only
  rcases a6 with a6 | ⟨hu', j, hj, ex⟩
  · have hn : ¬ 0 ≤ x := by
      rw [yy_lei]
      rw [yy_lti] at a6
      omega
    rw [if_neg hn, if_neg hn]
    exact ⟨x, _, _, _, _, _, _, rfl, rfl, REL_node R a1 a5 a2 a3 a4⟩
  · have h60 := a1.2.1
    subst ex
    have hp : 0 ≤ nI j := nI_pos' (by omega)
    rw [if_pos hp, if_pos hp]
    have eJ : nI j = nI (j + 1) - 1 := (nI_pred j).symm
    have hT := aim_one (tg := tg) (mw := mw) (rn := rn) (v := j + 1) (n := mo'.1) (by omega) (by omega)
    rw [← eJ, ← nI_1] at hT
    obtain ⟨t1, t2, t3, t4, _⟩ := n_transact (tg := px_aimAtOne rn (nI j) tg) (mw := md_wish rn (nI j + 1) (0, mw.2.1, mw.2.2)) a1.2.1 a2 a3 hu' (by show 0 + 1 ≤ 4; omega) hT
    have A : ∀ q, q ≠ k → AGR mn (md_transact k mn' (md_wish rn (nI j + 1) (0, mw.2.1, mw.2.2))).2 q := fun q hq => AGR_trans (a4 q hq) (t4 q hq)
    rw [t1]
    by_cases hb : (md_transact k mn' (md_wish rn (nI j + 1) (0, mw.2.1, mw.2.2))).1 = true
    · rw [if_pos hb, if_pos hb]
      exact ⟨_, _, _, _, _, _, _, rfl, rfl, REL_node R a1 a5 t2 t3 A⟩
    · rw [if_neg hb, if_neg hb]
      exact ⟨_, _, _, _, _, _, _, rfl, rfl, REL_node R a1 a5 t2 t3 A⟩
theorem rel_commit (R : REL so tk pk vd ns mo mn mt mv mp) (node rf tree other : Int32) : (x_commit node rf tree other so tg ns).1 = (md_commit node rf tree other mo mn mw).1 ∧ REL (x_commit node rf tree other so tg ns).2.1 tk pk vd (x_commit node rf tree other so tg ns).2.2.2 (md_commit node rf tree other mo mn mw).2.1 (md_commit node rf tree other mo mn mw).2.2.1 mt mv mp := by
  have h60 := R.1.2.1
  unfold x_commit md_commit
  simp only [yb]
  rw [isNode_eq]
  by_cases hN : md_isNode node = true
  · obtain ⟨k, hc, hk, _⟩ := md_isNode_nat rfl hN
    obtain ⟨N, U⟩ := R.2.1 k hk
    simp only [if_pos hN, yn, hc, isOwn_eq]
    by_cases h0 : rf < 0
    · simp only [if_pos h0]
      exact ⟨(by first | rfl | trivial), R⟩
    · by_cases h3 : rf ≤ 3
      · simp only [if_neg h0, if_pos h3]
        obtain ⟨rn, hrc, hr, _⟩ := yy_nat4 h0 h3
        simp only [hrc]
        by_cases hd : mn.2.2.1 k = true
        · rw [dark_up N hd, if_pos hd, if_neg (show ¬ false = true by decide)]
          exact ⟨(by first | rfl | trivial), R⟩
        · have hu := lit_up N hd
          obtain ⟨v, hv, v1, v2⟩ := N.1 rn (by omega)
          rw [hu, if_pos rfl, if_neg hd, holdsKind_eq R.1 N, valueOf_nI (by omega), v1, v2]
          by_cases ht : md_has k tree mo mn = true
          · obtain ⟨a, ha, ea⟩ := has_lt h60 ht
            rw [if_pos ht, if_pos ht]
            by_cases hkt : mo.2.1 tree.toNatClampNeg = 1
            · rw [if_pos hkt, if_pos hkt, if_pos rfl]
              have hm1 : (nI v - 1 = -1) ↔ (nI v - 1 < 0) := by rw [pv_m1 v (by omega), pv_lt v (by omega)]
              have par : ¬ nI v - 1 = -1 → ∃ b, b < mo.1 ∧ nI v - 1 = nI b := by
                intro hh
                have : v ≠ 0 := fun h => hh ((pv_m1 v (by omega)).mpr h)
                obtain ⟨w, rfl⟩ : ∃ w, v = w + 1 := ⟨v - 1, by omega⟩
                exact ⟨w, by omega, nI_pred w⟩
              by_cases ho : other = -1
              · have hca : px_isCommitOrAbsent other so (ns k) = true := by
                  unfold px_isCommitOrAbsent
                  rw [if_pos ho]
                rw [hca, if_pos rfl, if_pos ho, if_pos ho]
                by_cases hv1 : nI v - 1 = -1
                · rw [if_pos hv1, if_pos (hm1.mp hv1)]
                  obtain ⟨z, so', tg', ns', mo', mn', mw', c1, c2, c3⟩ := commit_tail (tg := tg) (mw := mw) R hk hr hu (a := tree) (b := other) (c := -1) (Or.inr ⟨Or.inr rfl, ⟨a, ha, ea⟩, Or.inl ho, Or.inl rfl⟩)
                  rw [c1, c2]
                  exact ⟨rfl, c3⟩
                · rw [if_neg hv1, if_neg (fun hh => hv1 (hm1.mpr hh))]
                  obtain ⟨z, so', tg', ns', mo', mn', mw', c1, c2, c3⟩ := commit_tail (tg := tg) (mw := mw) R hk hr hu (a := tree) (b := nI v - 1) (c := other) (Or.inr ⟨Or.inr rfl, ⟨a, ha, ea⟩, Or.inr (par hv1), Or.inl ho⟩)
                  rw [c1, c2]
                  exact ⟨rfl, c3⟩
              · have hca : px_isCommitOrAbsent other so (ns k) = if md_has k other mo mn = true then (if mo.2.1 other.toNatClampNeg = 2 then true else false) else false := by
                  unfold px_isCommitOrAbsent
                  simp only [yb]
                  rw [if_neg ho, holdsKind_eq R.1 N]
                  split
                  · split
                    · rfl
                    · rfl
                  · rfl
                rw [hca, if_neg ho, if_neg ho]
                by_cases hoh : md_has k other mo mn = true
                · obtain ⟨b, hb, eb⟩ := has_lt h60 hoh
                  rw [if_pos hoh, if_pos hoh]
                  by_cases hok : mo.2.1 other.toNatClampNeg = 2
                  · rw [if_pos hok, if_pos hok, if_pos rfl]
                    by_cases hov : other = nI v - 1
                    · rw [if_pos hov, if_pos hov]
                      exact ⟨(by first | rfl | trivial), R⟩
                    · rw [if_neg hov, if_neg hov]
                      by_cases hv1 : nI v - 1 = -1
                      · rw [if_pos hv1, if_pos (hm1.mp hv1)]
                        obtain ⟨z, so', tg', ns', mo', mn', mw', c1, c2, c3⟩ := commit_tail (tg := tg) (mw := mw) R hk hr hu (a := tree) (b := other) (c := -1) (Or.inr ⟨Or.inr rfl, ⟨a, ha, ea⟩, Or.inr ⟨b, hb, eb⟩, Or.inl rfl⟩)
                        rw [c1, c2]
                        exact ⟨rfl, c3⟩
                      · rw [if_neg hv1, if_neg (fun hh => hv1 (hm1.mpr hh))]
                        obtain ⟨z, so', tg', ns', mo', mn', mw', c1, c2, c3⟩ := commit_tail (tg := tg) (mw := mw) R hk hr hu (a := tree) (b := nI v - 1) (c := other) (Or.inr ⟨Or.inr rfl, ⟨a, ha, ea⟩, Or.inr (par hv1), Or.inr ⟨b, hb, eb⟩⟩)
                        rw [c1, c2]
                        exact ⟨rfl, c3⟩
                  · rw [if_neg hok, if_neg hok, if_neg (show ¬ false = true by decide)]
                    exact ⟨(by first | rfl | trivial), R⟩
                · rw [if_neg hoh, if_neg hoh, if_neg (show ¬ false = true by decide)]
                  exact ⟨(by first | rfl | trivial), R⟩
            · rw [if_neg hkt, if_neg hkt, if_neg (show ¬ false = true by decide)]
              exact ⟨(by first | rfl | trivial), R⟩
          · rw [if_neg ht, if_neg ht, if_neg (show ¬ false = true by decide)]
            exact ⟨(by first | rfl | trivial), R⟩
      · simp only [if_neg h0, if_neg h3]
        exact ⟨(by first | rfl | trivial), R⟩
  · simp only [if_neg hN]
    exact ⟨(by first | rfl | trivial), R⟩
end RO
end
section
section RO
variable {so : SS} {tk : TS} {pk : PS} {vd tg : Nat → Int32} {ns : Nat → NS} {mo : MO} {mn : MN} {mw : MW} {mt : MT} {mv : Nat → Int32} {mp : MP}
theorem point_tail (R : REL so tk pk vd ns mo mn mt mv mp) {k rn v : Nat} (hk : k < 3) (hr : rn < 4) (hu : nd_isUp (ns k) = true) (hv : v ≤ mo.1) {cm : Int32} (e : cm = nI v - 1) (e' : cm + 1 = nI v) :
    ∃ (z : Int32) (tg' : Nat → Int32) (ns' : Nat → NS) (mn' : MN) (mw' : MW), (if (nd_transact (ns k) (px_aimAtOne rn cm tg)).1 = true then ((1 : Int32), (px_aimAtOne rn cm tg), (yupF ns k (nd_transact (ns k) (px_aimAtOne rn cm tg)).2)) else ((-2), (px_aimAtOne rn cm tg), (yupF ns k (nd_transact (ns k) (px_aimAtOne rn cm tg)).2))) = (z, tg', ns') ∧ (if (md_transact k mn (md_wish rn (cm + 1) (0, mw.2.1, mw.2.2))).1 = true then ((1 : Int32), (md_transact k mn (md_wish rn (cm + 1) (0, mw.2.1, mw.2.2))).2, (md_wish rn (cm + 1) (0, mw.2.1, mw.2.2))) else ((-2), (md_transact k mn (md_wish rn (cm + 1) (0, mw.2.1, mw.2.2))).2, (md_wish rn (cm + 1) (0, mw.2.1, mw.2.2)))) = (z, mn', mw') ∧ REL so tk pk vd ns' mo mn' mt mv mp := by
  obtain ⟨N, U⟩ := R.2.1 k hk
  have hT := aim_one (tg := tg) (mw := mw) (rn := rn) (v := v) (n := mo.1) (by omega) hv
  rw [← e, ← e'] at hT
  obtain ⟨t1, t2, t3, t4, _⟩ := n_transact (tg := px_aimAtOne rn cm tg) (mw := md_wish rn (cm + 1) (0, mw.2.1, mw.2.2)) R.1.2.1 N U hu (by show 0 + 1 ≤ 4; omega) hT
  rw [t1]
  by_cases hb : (md_transact k mn (md_wish rn (cm + 1) (0, mw.2.1, mw.2.2))).1 = true
  · rw [if_pos hb, if_pos hb]
    exact ⟨_, _, _, _, _, rfl, rfl, REL_node R R.1 (Nat.le_refl _) t2 t3 t4⟩
  · rw [if_neg hb, if_neg hb]
    exact ⟨_, _, _, _, _, rfl, rfl, REL_node R R.1 (Nat.le_refl _) t2 t3 t4⟩
theorem rel_point (R : REL so tk pk vd ns mo mn mt mv mp) (node rf cm : Int32) : (x_point node rf cm so tg ns).1 = (md_point node rf cm mo mn mw).1 ∧ REL so tk pk vd (x_point node rf cm so tg ns).2.2 mo (md_point node rf cm mo mn mw).2.1 mt mv mp := by
  have h60 := R.1.2.1
  unfold x_point md_point
  simp only [yb]
  rw [isNode_eq]
  by_cases hN : md_isNode node = true
  · obtain ⟨k, hc, hk, _⟩ := md_isNode_nat rfl hN
    obtain ⟨N, U⟩ := R.2.1 k hk
    simp only [if_pos hN, yn, hc, isOwn_eq]
    by_cases h0 : rf < 0
    · simp only [if_pos h0]
      exact ⟨(by first | rfl | trivial), R⟩
    · by_cases h3 : rf ≤ 3
      · simp only [if_neg h0, if_pos h3]
        obtain ⟨rn, hrc, hr, _⟩ := yy_nat4 h0 h3
        simp only [hrc]
        by_cases hd : mn.2.2.1 k = true
        · rw [dark_up N hd, if_pos hd, if_neg (show ¬ false = true by decide)]
          exact ⟨(by first | rfl | trivial), R⟩
        · have hu := lit_up N hd
          obtain ⟨v, hv, v1, v2⟩ := N.1 rn (by omega)
          rw [hu, if_pos rfl, if_neg hd, valueOf_nI (by omega), v1, v2]
          have fin : ∀ w, w ≤ mo.1 → cm = nI w - 1 → cm + 1 = nI w → ((nI v - 1 = cm) ↔ (nI v = cm + 1)) := by
            intro w hw e e'
            rw [e', e, pv_inj (by omega) (by omega), nI_eq (by omega) (by omega)]
          by_cases ho : cm = -1
          · have hca : px_isCommitOrAbsent cm so (ns k) = true := by
              unfold px_isCommitOrAbsent
              rw [if_pos ho]
            have e0 : cm = nI 0 - 1 := by rw [ho]; decide +kernel
            have e1 : cm + 1 = nI 0 := by rw [ho]; decide +kernel
            rw [hca, if_pos rfl, if_pos ho]
            by_cases hq : nI v - 1 = cm
            · rw [if_pos hq, if_pos ((fin 0 (by omega) e0 e1).mp hq)]
              exact ⟨(by first | rfl | trivial), R⟩
            · rw [if_neg hq, if_neg (fun hh => hq ((fin 0 (by omega) e0 e1).mpr hh))]
              obtain ⟨z, tg', ns', mn', mw', c1, c2, c3⟩ := point_tail (tg := tg) (mw := mw) R hk hr hu (v := 0) (by omega) e0 e1
              rw [c1, c2]
              exact ⟨rfl, c3⟩
          · have hca : px_isCommitOrAbsent cm so (ns k) = if md_has k cm mo mn = true then (if mo.2.1 cm.toNatClampNeg = 2 then true else false) else false := by
              unfold px_isCommitOrAbsent
              simp only [yb]
              rw [if_neg ho, holdsKind_eq R.1 N]
              split
              · split
                · rfl
                · rfl
              · rfl
            rw [hca, if_neg ho]
            by_cases hoh : md_has k cm mo mn = true
            · obtain ⟨b, hb, eb⟩ := has_lt h60 hoh
              rw [if_pos hoh, if_pos hoh]
              by_cases hok : mo.2.1 cm.toNatClampNeg = 2
              · rw [if_pos hok, if_pos hok, if_pos rfl]
                have e0 : cm = nI (b + 1) - 1 := by rw [eb, nI_pred]
                have e1 : cm + 1 = nI (b + 1) := by rw [eb, nI_1]
                by_cases hq : nI v - 1 = cm
                · rw [if_pos hq, if_pos ((fin (b + 1) (by omega) e0 e1).mp hq)]
                  exact ⟨(by first | rfl | trivial), R⟩
                · rw [if_neg hq, if_neg (fun hh => hq ((fin (b + 1) (by omega) e0 e1).mpr hh))]
                  obtain ⟨z, tg', ns', mn', mw', c1, c2, c3⟩ := point_tail (tg := tg) (mw := mw) R hk hr hu (v := b + 1) (by omega) e0 e1
                  rw [c1, c2]
                  exact ⟨rfl, c3⟩
              · rw [if_neg hok, if_neg hok, if_neg (show ¬ false = true by decide)]
                exact ⟨(by first | rfl | trivial), R⟩
            · rw [if_neg hoh, if_neg hoh, if_neg (show ¬ false = true by decide)]
              exact ⟨(by first | rfl | trivial), R⟩
      · simp only [if_neg h0, if_neg h3]
        exact ⟨(by first | rfl | trivial), R⟩
  · simp only [if_neg hN]
    exact ⟨(by first | rfl | trivial), R⟩
theorem rel_arm (R : REL so tk pk vd ns mo mn mt mv mp) (node n : Int32) : (x_arm node n ns).1 = (md_arm node n mn).1 ∧ REL so tk pk vd (x_arm node n ns).2 mo (md_arm node n mn).2 mt mv mp := by
  unfold x_arm md_arm
  simp only [yb]
  rw [isNode_eq]
  by_cases hN : md_isNode node = true
  · obtain ⟨k, hc, hk, _⟩ := md_isNode_nat rfl hN
    obtain ⟨N, U⟩ := R.2.1 k hk
    simp only [if_pos hN, yn, hc]
    by_cases h1 : n < -1
    · rw [if_pos h1, if_pos h1]
      exact ⟨(by first | rfl | trivial), R⟩
    · by_cases h2 : n ≤ 100
      · rw [if_neg h1, if_neg h1, if_pos h2, if_pos h2]
        obtain ⟨f, hf, e1, e2⟩ : ∃ f, f ≤ 101 ∧ n + 1 = nI f ∧ n = nI f - 1 := by
          by_cases h3 : n < 0
          · have e : n = -1 := by
              rw [yy_lti] at h1 h3
              apply Int32.toInt_inj.mp
              have a0 : (0 : Int32).toInt = 0 := rfl
              have a1 : (-1 : Int32).toInt = -1 := rfl
              omega
            exact ⟨0, by omega, by rw [e]; decide +kernel, by rw [e]; decide +kernel⟩
          · obtain ⟨j, hj, e⟩ := nI_of2 (M := 100) (n := 100) rfl h3 h2
            exact ⟨j + 1, by omega, by rw [e, nI_1], by rw [e, nI_pred]⟩
        obtain ⟨hV, hP, hL, e5, e6, hi⟩ := N
        refine ⟨rfl, REL_node R R.1 (Nat.le_refl _) ⟨hV, ⟨hP.1, f, hf, ?_, e2⟩, hL, e5, e6, hi⟩ U (fun q hq => ⟨rfl, fun _ _ => rfl, rfl, upd_ne _ _ hq, rfl, rfl, fun _ _ => ⟨rfl, rfl⟩⟩)⟩
        show upd mn.2.2.2.1 k (n + 1) k = nI f
        rw [upd_at, e1]
      · rw [if_neg h1, if_neg h1, if_neg h2, if_neg h2]
        exact ⟨(by first | rfl | trivial), R⟩
  · simp only [if_neg hN]
    exact ⟨(by first | rfl | trivial), R⟩
theorem rel_recover (R : REL so tk pk vd ns mo mn mt mv mp) (node : Int32) : (x_recover node ns).1 = (md_recover node mn).1 ∧ REL so tk pk vd (x_recover node ns).2 mo (md_recover node mn).2 mt mv mp := by
  unfold x_recover md_recover
  simp only [yb]
  rw [isNode_eq]
  by_cases hN : md_isNode node = true
  · obtain ⟨k, hc, hk, _⟩ := md_isNode_nat rfl hN
    obtain ⟨N, U⟩ := R.2.1 k hk
    simp only [if_pos hN, yn, hc]
    by_cases hd : mn.2.2.1 k = true
    · have hu := dark_up N hd
      rw [hu, if_pos hd, if_neg (show ¬ false = true by decide)]
      obtain ⟨x, nd', mn', e1, e2, a1, a2, a3⟩ := n_recover R.1.2.1 N hu
      simp only [yb] at e2
      rw [e1, e2]
      exact ⟨rfl, REL_node R R.1 (Nat.le_refl _) a1 a2 a3⟩
    · rw [lit_up N hd, if_neg hd, if_pos rfl]
      exact ⟨(by first | rfl | trivial), R⟩
  · simp only [if_neg hN]
    exact ⟨(by first | rfl | trivial), R⟩
theorem chosen_all : ∀ i, i < 8 → px_isChosen 255 (nI i) = true := by decide +kernel
theorem chosen_own : ∀ i, i < 8 → px_isChosen 15 (nI i) = decide (i < 4) := by decide +kernel
theorem tips_L {nd : NS} {k n : Nat} (hV : RV nd.1 mn.2.1 k n) (hn : n ≤ 60) : ∀ (f i : Nat) (acc : Int64), i + f = 8 → nd_commitsOf_L5 255 nd f i acc = md_tips_L6 k mn f i acc
  | 0, i, acc, _ => rfl
  | f + 1, i, acc, h => by
    rw [nd_commitsOf_L5, md_tips_L6]
    simp only [yb]
    obtain ⟨v, hv, v1, v2⟩ := hV i (by omega)
    rw [chosen_all i (by omega), if_pos rfl, v1, v2]
    by_cases h0 : v = 0
    · rw [if_pos ((pv_m1 v (by omega)).mpr h0), if_pos ((pw_le v (by omega)).mpr h0)]
      exact tips_L hV hn f (i + 1) acc (by omega)
    · rw [if_neg (fun hh => h0 ((pv_m1 v (by omega)).mp hh)), if_neg (fun hh => h0 ((pw_le v (by omega)).mp hh))]
      exact tips_L hV hn f (i + 1) _ (by omega)
theorem tips_eq {nd : NS} {k n : Nat} (hV : RV nd.1 mn.2.1 k n) (hn : n ≤ 60) : nd_commitsOf 255 nd = md_tips k 0 7 mn := by
  unfold nd_commitsOf md_tips
  exact tips_L hV hn 8 0 0 (by omega)
theorem tips_in {k n : Nat} (hV : ∀ r, r < 8 → ∃ v, v ≤ n ∧ mn.2.1 (8 * k + r) = nI v) (hn : n ≤ 60) : ∀ (f i : Nat) (acc : Int64), i + f ≤ 8 → yin acc n → yin (md_tips_L6 k mn f i acc) n
  | 0, i, acc, _, ha => ha
  | f + 1, i, acc, h, ha => by
    rw [md_tips_L6]
    obtain ⟨v, hv, v1⟩ := hV i (by omega)
    rw [v1]
    by_cases h0 : v = 0
    · rw [if_pos ((pw_le v (by omega)).mpr h0)]
      exact tips_in hV hn f (i + 1) acc (by omega) ha
    · rw [if_neg (fun hh => h0 ((pw_le v (by omega)).mp hh))]
      obtain ⟨w, rfl⟩ : ∃ w, v = w + 1 := ⟨v - 1, by omega⟩
      rw [nI_pred]
      exact tips_in hV hn f (i + 1) _ (by omega) (yin_or ha (yin_1 (by omega) (by omega)))
theorem RV_ref {va : Nat → Int32} {k n : Nat} (hV : RV va mn.2.1 k n) : ∀ r, r < 8 → ∃ v, v ≤ n ∧ mn.2.1 (8 * k + r) = nI v := fun r hr => by
  obtain ⟨v, hv, v1, _⟩ := hV r hr
  exact ⟨v, hv, v1⟩
theorem rel_collect (R : REL so tk pk vd ns mo mn mt mv mp) (node : Int32) : (x_collect node so ns).1 = (md_collect node mo mn).1 ∧ REL so tk pk vd (x_collect node so ns).2 mo (md_collect node mo mn).2 mt mv mp := by
  have h60 := R.1.2.1
  unfold x_collect md_collect
  simp only [yb]
  rw [isNode_eq]
  by_cases hN : md_isNode node = true
  · obtain ⟨k, hc, hk, _⟩ := md_isNode_nat rfl hN
    obtain ⟨N, U⟩ := R.2.1 k hk
    simp only [if_pos hN, yn, hc]
    by_cases hd : mn.2.2.1 k = true
    · rw [dark_up N hd, if_pos hd, if_neg (show ¬ false = true by decide)]
      exact ⟨(by first | rfl | trivial), R⟩
    · have hin : yin (md_tips k 0 7 mn) mo.1 := tips_in (RV_ref N.1) h60 8 0 0 (by omega) yin_0
      rw [lit_up N hd, if_neg hd, if_pos rfl, tips_eq N.1 h60, st_reachOfAll_eq R.1 hin, md_reach_eq h60]
      obtain ⟨hV, hP, hL, e5, e6, hi⟩ := N
      have hz : yin (mn.1 k &&& yR mo mo.1 (md_tips k 0 7 mn)) mo.1 := yin_and hi
      rw [nd_keepOnly]
      simp only [yb]
      rw [e6, jl_md (yin_mono hi h60), jl_md (yin_mono hz h60)]
      refine ⟨rfl, REL_node R R.1 (Nat.le_refl _) ⟨hV, hP, hL, e5, ?_, ?_⟩ U (fun q hq => ⟨updL_ne _ _ hq, fun _ _ => rfl, rfl, rfl, rfl, rfl, fun _ _ => ⟨rfl, rfl⟩⟩)⟩
      · show mn.1 k &&& yR mo mo.1 (md_tips k 0 7 mn) = vp_updL mn.1 k (mn.1 k &&& yR mo mo.1 (md_tips k 0 7 mn)) k
        rw [updL_at]
      · show yin (vp_updL mn.1 k (mn.1 k &&& yR mo mo.1 (md_tips k 0 7 mn)) k) mo.1
        rw [updL_at]
        exact hz
  · simp only [if_neg hN]
    exact ⟨(by first | rfl | trivial), R⟩
theorem rel_up (R : REL so tk pk vd ns mo mn mt mv mp) (node : Int32) : x_up node ns = md_up node mn := by
  unfold x_up md_up
  simp only [yb]
  rw [isNode_eq]
  by_cases hN : md_isNode node = true
  · obtain ⟨k, hc, hk, _⟩ := md_isNode_nat rfl hN
    obtain ⟨N, U⟩ := R.2.1 k hk
    simp only [if_pos hN, yn, hc]
    by_cases hd : mn.2.2.1 k = true
    · rw [dark_up N hd, if_pos hd, if_neg (show ¬ false = true by decide)]
    · rw [lit_up N hd, if_neg hd, if_pos rfl]
  · simp only [if_neg hN]
theorem rel_reference (R : REL so tk pk vd ns mo mn mt mv mp) (node rf : Int32) : x_reference node rf ns = md_reference node rf mn := by
  have h60 := R.1.2.1
  unfold x_reference md_reference
  simp only [yb]
  rw [isNode_eq]
  by_cases hN : md_isNode node = true
  · obtain ⟨k, hc, hk, _⟩ := md_isNode_nat rfl hN
    obtain ⟨N, U⟩ := R.2.1 k hk
    simp only [if_pos hN, yn, hc]
    by_cases h0 : rf < 0
    · rw [if_pos h0, if_pos h0]
    · rw [if_neg h0, if_neg h0]
      have e : rf < 8 ↔ rf ≤ 7 := by
        rw [yy_lei, yy_lti]
        have e3 : (8 : Int32).toInt = 8 := rfl
        have e2 : (7 : Int32).toInt = 7 := rfl
        omega
      by_cases h7 : rf ≤ 7
      · rw [if_pos h7, if_pos (e.mpr h7)]
        obtain ⟨rn, hrc, hr, er⟩ := yy_nat8 h0 h7
        rw [hrc]
        by_cases hd : mn.2.2.1 k = true
        · rw [dark_up N hd, if_pos hd, if_neg (show ¬ false = true by decide)]
        · obtain ⟨v, hv, v1, v2⟩ := N.1 rn hr
          rw [lit_up N hd, if_neg hd, if_pos rfl, er, valueOf_nI hr, v1, v2]
          by_cases hz : v = 0
          · rw [if_pos ((pv_m1 v (by omega)).mpr hz), if_pos ((pw_0 v (by omega)).mpr hz)]
          · rw [if_neg (fun hh => hz ((pv_m1 v (by omega)).mp hh)), if_neg (fun hh => hz ((pw_0 v (by omega)).mp hh))]
      · rw [if_neg h7, if_neg (fun hh => h7 (e.mp hh))]
  · simp only [if_neg hN]
theorem rel_holds (R : REL so tk pk vd ns mo mn mt mv mp) (node num : Int32) : x_holds node num ns = md_holds node num mo mn := by
  have h60 := R.1.2.1
  unfold x_holds md_holds
  simp only [yb]
  rw [isNode_eq]
  by_cases hN : md_isNode node = true
  · obtain ⟨k, hc, hk, _⟩ := md_isNode_nat rfl hN
    obtain ⟨N, U⟩ := R.2.1 k hk
    simp only [if_pos hN, yn, hc]
    by_cases hd : mn.2.2.1 k = true
    · rw [dark_up N hd, if_pos hd, if_neg (show ¬ false = true by decide)]
    · rw [lit_up N hd, if_neg hd, if_pos rfl, isIn_has (k := k) (mn := mn) (x := nd_heldSet (ns k)) h60 N.2.2.2.2.1 (by rw [show nd_heldSet (ns k) = mn.1 k from N.2.2.2.2.1]; exact N.2.2.2.2.2)]
  · simp only [if_neg hN]
theorem cnt_key {nd : NS} {k n : Nat} (hn : n ≤ 60) (N : NOD nd mn k n) : jl_bitCount (nd_heldSet nd) = md_many (mn.1 k) := by
  obtain ⟨n1, n2, n3, n4, n5, n6⟩ := N
  have e9 : nd_heldSet nd = mn.1 k := n5
  have e8 : jl_bitCount (mn.1 k) = md_many (mn.1 k) := jl_md (yin_mono n6 hn)
  exact (congrArg jl_bitCount e9).trans e8
theorem cnt_walk (J M : Int64 → Int32) (hJ : ∀ k, k < 3 → J (nd_heldSet (ns k)) = M (mn.1 k)) (R : REL so tk pk vd ns mo mn mt mv mp) (node : Int32) : (yb (px_isNode node) fun r1 => (if r1 = true then (yn node fun nk => (yb (nd_isUp (ns nk)) fun r3 => (if r3 = true then (yb (nd_heldSet (ns nk)) fun r5 => (yb (J r5) fun r6 => r6)) else (-2)))) else (-1))) = (yb (md_isNode node) fun r1 => (if r1 = true then (yn node fun nk => (if mn.2.2.1 nk = true then (-2) else (yb (M (mn.1 nk)) fun r4 => r4))) else (-1))) := by
  simp only [yb]
  rw [isNode_eq]
  by_cases hN : md_isNode node = true
  · obtain ⟨k, hc, hk, _⟩ := md_isNode_nat rfl hN
    obtain ⟨N, U⟩ := R.2.1 k hk
    simp only [if_pos hN, yn, hc]
    by_cases hd : mn.2.2.1 k = true
    · rw [dark_up N hd, if_pos hd, if_neg (show ¬ false = true by decide)]
    · rw [lit_up N hd, if_neg hd, if_pos rfl]
      exact hJ k hk
  · simp only [if_neg hN]
theorem rel_count (R : REL so tk pk vd ns mo mn mt mv mp) (node : Int32) : x_count node ns = md_count node mn := by
  rw [x_count, md_count]
  exact cnt_walk jl_bitCount md_many (fun k hk => cnt_key R.1.2.1 (R.2.1 k hk).1) R node
theorem rel_talk (R : REL so tk pk vd ns mo mn mt mv mp) (w : Int32) : x_talk w tk = md_talk w mt := by
  have e : tk = mt := R.2.2.1
  subst e
  unfold x_talk md_talk tk_havesSent tk_havesAcknowledged tk_roundsHeld
  simp only [yb]
  by_cases h0 : w = 0
  · subst h0
    rw [if_pos rfl, if_neg (by decide), if_pos (by decide), if_pos rfl]
  · by_cases h1 : w = 1
    · subst h1
      rw [if_neg (by decide), if_pos rfl, if_neg (by decide), if_pos (by decide), if_neg (by decide), if_pos rfl]
    · by_cases h2 : w = 2
      · subst h2
        rw [if_neg (by decide), if_neg (by decide), if_pos rfl, if_neg (by decide), if_pos (by decide), if_neg (by decide), if_neg (by decide)]
      · rw [if_neg h0, if_neg h1, if_neg h2]
        by_cases hn : w < 0
        · rw [if_pos hn]
        · rw [if_neg hn, if_neg]
          intro h3
          obtain ⟨j, hj, rfl⟩ := nI_of2 (M := 2) (n := 2) rfl hn h3
          rcases (show j = 0 ∨ j = 1 ∨ j = 2 by omega) with rfl | rfl | rfl
          · exact h0 rfl
          · exact h1 rfl
          · exact h2 rfl
theorem rel_packed (R : REL so tk pk vd ns mo mn mt mv mp) : x_packed pk = md_packed mp := R.2.2.2.1.2.2.2.1
theorem place_eq {α : Type} {pl : Int32} {n : Nat} (a b : α) : (if (if pl < 0 then false else (if nI n ≤ pl then false else true)) = true then a else b) = if pl < 0 then b else if pl < nI n then a else b := by
  by_cases h0 : pl < 0
  · rw [if_pos h0, if_pos h0, if_neg (by decide)]
  · rw [if_neg h0, if_neg h0]
    by_cases h1 : nI n ≤ pl
    · rw [if_pos h1, if_neg (by decide), if_neg (show ¬ pl < nI n by rw [yy_lti]; rw [yy_lei] at h1; omega)]
    · rw [if_neg h1, if_pos rfl, if_pos (show pl < nI n by rw [yy_lti]; rw [yy_lei] at h1; omega)]
theorem rel_packAt (R : REL so tk pk vd ns mo mn mt mv mp) (pl : Int32) : x_packAt pl pk = md_packAt pl mp := by
  obtain ⟨p1, p2, p3, p4, p5, p6⟩ := R.2.2.2.1
  unfold x_packAt md_packAt pk_objectAt pk_isPlace
  simp only [yb]
  rw [place_eq, p1, p4]
theorem rel_base (R : REL so tk pk vd ns mo mn mt mv mp) (pl : Int32) : x_base pl pk = md_base pl mp := by
  obtain ⟨p1, p2, p3, p4, p5, p6⟩ := R.2.2.2.1
  unfold x_base md_base pk_baseAt pk_isPlace
  simp only [yb]
  rw [place_eq, p2, p4]
theorem rel_weight (R : REL so tk pk vd ns mo mn mt mv mp) : x_weight pk = md_weight mp := by
  rw [weight_eq]
  exact R.2.2.2.1.2.2.2.2.2
theorem rel_verdict (R : REL so tk pk vd ns mo mn mt mv mp) (r : Int32) : x_verdict r vd = md_verdict r mv := by
  have e : vd = mv := R.2.2.2.2
  subst e
  unfold x_verdict md_verdict
  simp only [yb]
  rw [isOwn_eq]
end RO
end
section
/-! fetch and push -/
theorem chb1 : ∀ s, s < 16 → ∀ i, i < 8 → ((yishr (nI s) (nI i) &&& 1) = 1 ↔ px_isChosen (nI s) (nI i) = true) := by decide +kernel
theorem chb0 : ∀ s, s < 16 → ∀ i, i < 8 → ((yishr (nI s) (nI i) &&& 1) = 0 ↔ ¬ px_isChosen (nI s) (nI i) = true) := by decide +kernel
theorem ch4 : ∀ s, s < 16 → ∀ i, i < 8 → 4 ≤ i → ¬ px_isChosen (nI s) (nI i) = true := by decide +kernel
theorem isClient_of {x : Int32} {r : Bool} (e : px_isNode x = r) : px_isClient x = (if r = true then (if x = 0 then false else true) else false) := by
  subst e
  rfl
theorem isNode_val (x : Int32) : px_isNode x = (if x < 0 then false else (if 2 < x then false else true)) := isNode_eq x
theorem isClient_eq (x : Int32) {α : Type} (a b : α) : (if px_isClient x = true then a else b) = if x < 1 then b else if 2 < x then b else a := by
  have a0 : (0 : Int32).toInt = 0 := rfl
  have a1 : (1 : Int32).toInt = 1 := rfl
  by_cases h1 : x < 1
  · have c : px_isClient x = false := by
      by_cases h0 : x < 0
      · have e : px_isNode x = false := by rw [isNode_val, if_pos h0]
        rw [isClient_of e, if_neg (by decide)]
      · have e : x = 0 := by
          apply Int32.toInt_inj.mp
          rw [yy_lti] at h0 h1
          omega
        subst e
        decide
    rw [if_pos h1, if_neg (show ¬ px_isClient x = true by rw [c]; decide)]
  · have h0 : ¬ x < 0 := by
      rw [yy_lti] at h1 ⊢
      omega
    have hz : ¬ x = 0 := fun e => h1 (by rw [e]; decide)
    rw [if_neg h1]
    by_cases h2 : 2 < x
    · have e : px_isNode x = false := by rw [isNode_val, if_neg h0, if_pos h2]
      have c : px_isClient x = false := by rw [isClient_of e, if_neg (by decide)]
      rw [if_pos h2, if_neg (show ¬ px_isClient x = true by rw [c]; decide)]
    · have e : px_isNode x = true := by rw [isNode_val, if_neg h0, if_neg h2]
      have c : px_isClient x = true := by rw [isClient_of e, if_pos rfl, if_neg hz]
      rw [if_neg h2, if_pos c]
theorem isSet_eq (x : Int32) {α : Type} (a b : α) : (if px_isSet x = true then a else b) = if x < 1 then b else if x ≤ 15 then a else b := by
  unfold px_isSet
  have e : (15 : Int32) < x ↔ ¬ x ≤ 15 := by
    rw [yy_lei, yy_lti]
    omega
  by_cases h0 : x < 1
  · rw [if_pos h0, if_pos h0, if_neg (by decide)]
  · rw [if_neg h0, if_neg h0]
    by_cases h3 : x ≤ 15
    · rw [if_pos h3, if_neg (fun hh => (e.mp hh) h3), if_pos rfl]
    · rw [if_neg h3, if_pos (e.mpr h3), if_neg (by decide)]
theorem set_nat {x : Int32} (h0 : ¬ x < 1) (h : x ≤ 15) : ∃ s, s < 16 ∧ x = nI s := by
  have hn : ¬ x < 0 := by
    rw [yy_lti] at h0 ⊢
    have a0 : (0 : Int32).toInt = 0 := rfl
    have a1 : (1 : Int32).toInt = 1 := rfl
    omega
  obtain ⟨j, hj, e⟩ := nI_of2 (M := 15) (n := 15) rfl hn h
  exact ⟨j, by omega, e⟩
section FE
variable {so : SS} {tk : TS} {pk : PS} {vd tg : Nat → Int32} {ns : Nat → NS} {mo : MO} {mn : MN} {mw : MW} {mt : MT} {mv : Nat → Int32} {mp : MP} {s : Nat}
theorem commits_tail {nd : NS} (hs : s < 16) : ∀ (f i : Nat) (acc : Int64), 4 ≤ i → i + f = 8 → nd_commitsOf_L5 (nI s) nd f i acc = acc
  | 0, i, acc, _, _ => rfl
  | f + 1, i, acc, h4, h => by
    rw [nd_commitsOf_L5]
    simp only [yb]
    rw [if_neg (ch4 s hs i (by omega) h4)]
    exact commits_tail hs f (i + 1) acc (by omega) (by omega)
theorem commits_in {nd : NS} {set : Int32} {rf : Nat → Int32} {k n : Nat} (hn : n ≤ 60) (hV : RV nd.1 rf k n) : ∀ (f i : Nat) (acc : Int64), i + f = 8 → yin acc n → yin (nd_commitsOf_L5 set nd f i acc) n
  | 0, i, acc, _, ha => ha
  | f + 1, i, acc, h, ha => by
    rw [nd_commitsOf_L5]
    simp only [yb]
    obtain ⟨v, hv, v1, v2⟩ := hV i (by omega)
    rw [v2]
    split
    · split
      · exact commits_in hn hV f (i + 1) acc (by omega) ha
      · rename_i hne
        have : v ≠ 0 := fun h0 => hne ((pv_m1 v (by omega)).mpr h0)
        obtain ⟨w, rfl⟩ : ∃ w, v = w + 1 := ⟨v - 1, by omega⟩
        rw [nI_pred]
        exact commits_in hn hV f (i + 1) _ (by omega) (yin_or ha (yin_1 (by omega) (by omega)))
    · exact commits_in hn hV f (i + 1) acc (by omega) ha
theorem ylP_wish {tg : Nat → Int32} {n i : Nat} {v : Nat} (h8 : i < 8) (hv : v ≤ n) (h : ylP tg mw.2.1 mw.2.2 0 n i mw.1) : ylP (upd tg i (nI v - 1)) (md_wish i (nI v) mw).2.1 (md_wish i (nI v) mw).2.2 0 n (i + 1) (md_wish i (nI v) mw).1 := by
  rw [ylP]
  refine Or.inr ⟨mw.1, v, rfl, hv, ?_, ?_, upd_at _ _ _, ?_⟩
  · show yupN mw.2.1 mw.1 i (0 + mw.1) % 8 = i
    rw [Nat.zero_add, yupN_at]
    omega
  · show upd mw.2.2 mw.1 (nI v) (0 + mw.1) = nI v
    rw [Nat.zero_add, upd_at]
  · refine ylP_congr i mw.1 (fun j hj => upd_ne _ _ (by omega)) (fun j hj => ⟨?_, ?_⟩) h
    · show yupN mw.2.1 mw.1 i (0 + j) % 8 = _
      rw [yupN_ne _ _ (by omega)]
    · show upd mw.2.2 mw.1 (nI v) (0 + j) = _
      rw [upd_ne _ _ (by omega)]
theorem ylP_none {tg : Nat → Int32} {wr : Nat → Nat} {wv : Nat → Int32} {n i m : Nat} (h2 : tg i = -2) (h : ylP tg wr wv 0 n i m) : ylP tg wr wv 0 n (i + 1) m := by
  rw [ylP]
  exact Or.inl ⟨h2, h⟩
theorem not_and {w : Nat} (hw : w < 64) (a H : Int64) : (a ||| ylshl 1 (nI w)) &&& (H ^^^ (-1)) = if yx H w = true then a &&& (H ^^^ (-1)) else (a &&& (H ^^^ (-1))) ||| ylshl 1 (nI w) := by
  rw [and_orR, yx_1and hw, yx_not _ hw]
  by_cases h : yx H w = true
  · rw [if_pos h, h, if_neg (by decide), yx_or0]
  · rw [if_neg h, (Bool.not_eq_true _).mp h, if_pos (by decide)]
theorem fetch_L {ne : NS} {k : Nat} (hs : s < 16) (ho : mo.1 ≤ 60) (hV : RV ne.1 mn.2.1 0 mo.1) : ∀ (f i : Nat) (acc : Int64) (mw : MW) (tg : Nat → Int32), i + f = 4 → mw.1 ≤ i → ylP tg mw.2.1 mw.2.2 0 mo.1 (4 + i) mw.1 → (∀ j, 4 + i ≤ j → j < 8 → tg j = -2) →
    ∃ mw' : MW, md_fetch_L54 (nI s) mo mn mp f i k (acc &&& (mn.1 k ^^^ (-1))) mw = md_fetch_L54 (nI s) mo mn mp 0 4 k (nd_commitsOf_L5 (nI s) ne (f + 4) i acc &&& (mn.1 k ^^^ (-1))) mw' ∧ mw'.1 ≤ 4 ∧ ylP (px_aimAtValues_L7 (nI s) 4 ne f i tg) mw'.2.1 mw'.2.2 0 mo.1 8 mw'.1
  | 0, i, acc, mw, tg, h, hm, hL, _ => by
    have e : i = 4 := by omega
    subst e
    refine ⟨mw, ?_, hm, hL⟩
    rw [commits_tail hs 4 4 acc (by omega) (by omega)]
  | f + 1, i, acc, mw, tg, h, hm, hL, h2 => by
    have hL1 := ylP_none (h2 (4 + i) (by omega) (by omega)) hL
    have h2' : ∀ j, 4 + (i + 1) ≤ j → j < 8 → tg j = -2 := fun j h1 h3 => h2 j (by omega) h3
    have skip := fetch_L (k := k) hs ho hV f (i + 1) acc mw tg (by omega) (by omega) hL1 h2'
    rw [md_fetch_L54, show f + 1 + 4 = (f + 4) + 1 by omega, nd_commitsOf_L5, px_aimAtValues_L7]
    simp only [yb]
    by_cases hc : px_isChosen (nI s) (nI i) = true
    · rw [if_pos hc, if_pos hc, if_pos ((chb1 s hs i (by omega)).mpr hc)]
      obtain ⟨v, hv, v1, v2⟩ := hV i (by omega)
      rw [Nat.mul_zero, Nat.zero_add] at v1
      rw [valueOf_nI (by omega), v1, v2]
      by_cases h0 : v = 0
      · rw [if_pos ((pv_m1 v (by omega)).mpr h0), if_pos ((pw_le v (by omega)).mpr h0), if_pos ((pv_m1 v (by omega)).mpr h0)]
        exact skip
      · rw [if_neg (fun hh => h0 ((pv_m1 v (by omega)).mp hh)), if_neg (fun hh => h0 ((pw_le v (by omega)).mp hh)), if_neg (fun hh => h0 ((pv_m1 v (by omega)).mp hh))]
        obtain ⟨w, rfl⟩ : ∃ w, v = w + 1 := ⟨v - 1, by omega⟩
        have hLw := ylP_wish (mw := mw) (v := w + 1) (show 4 + i < 8 by omega) hv hL
        rw [nI_pred, show i + 4 = 4 + i by omega]
        rw [nI_pred] at hLw
        have go := fetch_L (k := k) hs ho hV f (i + 1) (acc ||| ylshl 1 (nI w)) (md_wish (4 + i) (nI (w + 1)) mw) (upd tg (4 + i) (nI w)) (by omega) (by show mw.1 + 1 ≤ i + 1; omega) hLw (fun j h1 h3 => by rw [upd_ne _ _ (by omega)]; exact h2' j h1 h3)
        rw [md_has_nI (by omega) ho]
        rw [not_and (by omega)] at go
        by_cases hh : yx (mn.1 k) w = true
        · rw [if_pos hh] at go ⊢
          exact go
        · rw [if_neg hh] at go ⊢
          exact go
    · rw [if_neg hc, if_neg hc, if_neg (fun hh => hc ((chb1 s hs i (by omega)).mp hh))]
      exact skip
theorem talk_in {wants hbs : Int64} {ackd : Int32} (HO : OBJ so mo) : ∀ (k i : Nat) (known left : Int64) (sent : Int32), yin known mo.1 → yin left mo.1 → yin (tk_run_L17 wants hbs so k i known left sent ackd).1 mo.1
  | 0, i, known, left, sent, hk, _ => hk
  | k + 1, i, known, left, sent, hk, hl => by
    rw [tk_run_L17]
    simp only [yb]
    split
    · exact hk
    · split
      · exact hk
      · refine talk_in HO k (i + 1) _ _ _ (yin_or hk ?_) (yin_and hl)
        rw [highest_eq HO.2.1 hl]
        exact yin_and (yhi_in left mo.1 0 (by have := HO.2.1; omega))
theorem ycnt_0 : ycnt 0 60 = 0 := ycnt_none 60 (fun i _ => yx_0 i)
theorem talk_eq {k : Nat} {wants tips : Int64} (HO : OBJ so mo) (hw : yin wants mo.1) (ht : yin tips mo.1) (et : md_tips k 0 7 mn = tips) : tk_run wants (yR mo mo.1 tips &&& st_allOfKind 2 so) (mn.1 0) tk so = if wants = 0 then (0, (0, 0, 0)) else md_converse k wants mo mn (0, 0, 0) := by
  have h60 := HO.2.1
  unfold tk_run
  by_cases h0 : wants = 0
  · subst h0
    rw [if_pos rfl, talk_stop (so := so) (by
      unfold st_eachReachesOne
      rw [HO.1]
      exact eachR_empty HO mo.1 0 (by omega)), jl_many yin_0, ycnt_0]
    rfl
  · rw [if_neg h0, talk_L (mn := mn) HO 60 0 0 _ 0 yin_0 (yin_and (HO.reachIn ht)) (fun q hq => by rw [yx_0] at hq; cases hq) (eachR_0 HO hw h0), md_converse]
    simp only [yb]
    rw [et, md_reach_eq h60, ycnt_0]
    have z : yR mo mo.1 tips &&& (0 : Int64) = 0 := by
      apply yx_ext
      intro i _
      rw [yx_and, yx_0, Bool.and_false]
    have t := conv_L23 (wants := wants) (mn := mn) (mt := (0, 0, 0)) (known := 0) (set := yR mo mo.1 tips) HO mo.1 0 0 (by omega)
    rw [z] at t
    rw [t]
    unfold st_allOfKind
    rw [HO.1]
    rfl
theorem fetch_tail (R : REL so tk pk vd ns mo mn mt mv mp) {k : Nat} (hk : k < 3) (hu : nd_isUp (ns k) = true) {P : Int64} {mt' : MT} {mw' : MW} {tg' : Nat → Int32} (hP : yin P mo.1) (hm : mw'.1 ≤ 4) (hT : ylP tg' mw'.2.1 mw'.2.2 0 mo.1 8 mw'.1) :
    ∃ (z : Int32) (tg'' : Nat → Int32) (ns' : Nat → NS) (mn' : MN), (if (nd_writeMissing P (ns k)).1 = true then (if (nd_transact (nd_writeMissing P (ns k)).2 tg').1 = true then ((nI (pk_length (pk_fill P pk so))), mt', pk_fill P pk so, tg', (yupF ns k (nd_transact (nd_writeMissing P (ns k)).2 tg').2)) else ((-2), mt', pk_fill P pk so, tg', (yupF ns k (nd_transact (nd_writeMissing P (ns k)).2 tg').2))) else ((-2), mt', pk_fill P pk so, tg, (yupF ns k (nd_writeMissing P (ns k)).2))) = (z, mt', pk_fill P pk so, tg'', ns') ∧
      (if (md_store k P mo mn).1 = true then (if (md_transact k (md_store k P mo mn).2 mw').1 = true then ((nI (md_pack P mo mp).1), (md_transact k (md_store k P mo mn).2 mw').2, mw', mt', md_pack P mo mp) else ((-2), (md_transact k (md_store k P mo mn).2 mw').2, mw', mt', md_pack P mo mp)) else ((-2), (md_store k P mo mn).2, mw', mt', md_pack P mo mp)) = (z, mn', mw', mt', md_pack P mo mp) ∧ REL so mt' (pk_fill P pk so) vd ns' mo mn' mt' mv (md_pack P mo mp) := by
  have h60 := R.1.2.1
  obtain ⟨N, U⟩ := R.2.1 k hk
  obtain ⟨⟨s1, s2, s3, s4, s5⟩, _⟩ := n_store h60 hP N U hu
  obtain ⟨f1, f2⟩ := fill_pack R.1 (set := P) R.2.2.2.1
  have R' : REL so mt' (pk_fill P pk so) vd ns mo mn mt' mv (md_pack P mo mp) := ⟨R.1, R.2.1, rfl, f1, R.2.2.2.2⟩
  have el : pk_length (pk_fill P pk so) = (md_pack P mo mp).1 := f1.2.2.2.1
  rw [el]
  by_cases hb : (md_store k P mo mn).1 = true
  · have hb' := s1.trans hb
    rw [if_pos hb, if_pos hb']
    obtain ⟨t1, t2, t3, t4, t5⟩ := n_transact (tg := tg') (mw := mw') h60 s2 s3 (s5 hb') hm hT
    have A : ∀ q, q ≠ k → AGR mn (md_transact k (md_store k P mo mn).2 mw').2 q := fun q hq => AGR_trans (s4 q hq) (t4 q hq)
    rw [t1]
    by_cases hc : (md_transact k (md_store k P mo mn).2 mw').1 = true
    · rw [if_pos hc, if_pos hc]
      exact ⟨_, _, _, _, rfl, rfl, REL_node R' R.1 (Nat.le_refl _) t2 t3 A⟩
    · rw [if_neg hc, if_neg hc]
      exact ⟨_, _, _, _, rfl, rfl, REL_node R' R.1 (Nat.le_refl _) t2 t3 A⟩
  · have hb' : ¬ (nd_writeMissing P (ns k)).1 = true := fun hh => hb (s1.symm.trans hh)
    rw [if_neg hb, if_neg hb']
    exact ⟨_, _, _, _, rfl, rfl, REL_node R' R.1 (Nat.le_refl _) s2 s3 s4⟩
theorem rel_fetch (R : REL so tk pk vd ns mo mn mt mv mp) (node set : Int32) : (x_fetch node set so tk pk tg ns).1 = (md_fetch node set mo mn mw mt mp).1 ∧ REL so (x_fetch node set so tk pk tg ns).2.1 (x_fetch node set so tk pk tg ns).2.2.1 vd (x_fetch node set so tk pk tg ns).2.2.2.2 mo (md_fetch node set mo mn mw mt mp).2.1 (md_fetch node set mo mn mw mt mp).2.2.2.1 mv (md_fetch node set mo mn mw mt mp).2.2.2.2 := by
  have h60 := R.1.2.1
  unfold x_fetch md_fetch
  simp only [yb, yn, isClient_eq, isSet_eq]
  by_cases h1 : node < 1
  · simp only [if_pos h1]
    exact ⟨(by first | rfl | trivial), R⟩
  · by_cases h2 : 2 < node
    · simp only [if_neg h1, if_pos h2]
      exact ⟨(by first | rfl | trivial), R⟩
    · by_cases h3 : set < 1
      · simp only [if_neg h1, if_neg h2, if_pos h3]
        exact ⟨(by first | rfl | trivial), R⟩
      · by_cases h4 : set ≤ 15
        · simp only [if_neg h1, if_neg h2, if_neg h3, if_pos h4]
          obtain ⟨k, hc, hk, en⟩ := yy_natC h1 h2
          obtain ⟨s, hs, rfl⟩ := set_nat h3 h4
          simp only [hc]
          obtain ⟨N, U⟩ := R.2.1 k hk
          obtain ⟨N0, U0⟩ := R.2.1 0 (by decide)
          by_cases hd : mn.2.2.1 k = true
          · rw [dark_up N hd, if_pos hd, if_neg (show ¬ false = true by decide)]
            exact ⟨(by first | rfl | trivial), R⟩
          · have hu := lit_up N hd
            rw [hu, if_neg hd, if_pos rfl]
            by_cases hd0 : mn.2.2.1 0 = true
            · rw [dark_up N0 hd0, if_pos hd0, if_neg (show ¬ false = true by decide)]
              exact ⟨(by first | rfl | trivial), R⟩
            · rw [lit_up N0 hd0, if_neg hd0, if_pos rfl]
              obtain ⟨mw', g1, g2, g3⟩ := fetch_L (mn := mn) (mp := mp) (ne := ns 0) (k := k) hs h60 N0.1 4 0 0 (0, mw.2.1, mw.2.2) (px_clearTargets tg) (by omega) (by show 0 ≤ 0; omega) (ylP_nil 4 (fun i hi => clr_8 tg i (by omega))) (fun j _ h8 => clr_8 tg j h8)
              have z : (0 : Int64) &&& (mn.1 k ^^^ (-1)) = 0 := by
                apply yx_ext
                intro i _
                rw [yx_and, yx_0]
                rfl
              rw [z] at g1
              rw [g1]
              have hcin : yin (nd_commitsOf (nI s) (ns 0)) mo.1 := commits_in h60 N0.1 8 0 0 (by omega) yin_0
              have htin : yin (md_tips k 0 7 mn) mo.1 := tips_in (RV_ref N.1) h60 8 0 0 (by omega) yin_0
              have e9 : nd_heldSet (ns k) = mn.1 k := N.2.2.2.2.1
              have e14 : nd_heldSet (ns 0) = mn.1 0 := N0.2.2.2.2.1
              have hWin : yin (nd_commitsOf (nI s) (ns 0) &&& (mn.1 k ^^^ (-1))) mo.1 := yin_and hcin
              have ec : nd_commitsOf_L5 (nI s) (ns 0) (4 + 4) 0 0 = nd_commitsOf (nI s) (ns 0) := rfl
              have ea : px_aimAtValues (nI s) 4 tg (ns 0) = px_aimAtValues_L7 (nI s) 4 (ns 0) 4 0 (px_clearTargets tg) := rfl
              rw [ec, e9, e14, tips_eq N.1 h60, st_reachOfAll_eq R.1 htin, st_reachOfAll_eq R.1 hWin, ea]
              have et := talk_eq (tk := tk) (k := k) (mn := mn) R.1 hWin htin rfl
              have hKin : yin (tk_run (nd_commitsOf (nI s) (ns 0) &&& (mn.1 k ^^^ (-1))) (yR mo mo.1 (md_tips k 0 7 mn) &&& st_allOfKind 2 so) (mn.1 0) tk so).1 mo.1 := by
                unfold tk_run
                exact talk_in R.1 60 0 0 _ 0 yin_0 (yin_and (R.1.reachIn htin))
              generalize hrun : tk_run (nd_commitsOf (nI s) (ns 0) &&& (mn.1 k ^^^ (-1))) (yR mo mo.1 (md_tips k 0 7 mn) &&& st_allOfKind 2 so) (mn.1 0) tk so = run at et hKin ⊢
              generalize nd_commitsOf (nI s) (ns 0) &&& (mn.1 k ^^^ (-1)) = W at et hWin ⊢
              generalize px_aimAtValues_L7 (nI s) 4 (ns 0) 4 0 (px_clearTargets tg) = tg' at g3 ⊢
              rw [st_reachOfAll_eq R.1 hKin]
              have hPin : yin (yR mo mo.1 W &&& (yR mo mo.1 run.1 ^^^ (-1))) mo.1 := yin_and (R.1.reachIn hWin)
              obtain ⟨q1, q2⟩ := fill_pack R.1 (set := yR mo mo.1 W &&& (yR mo mo.1 run.1 ^^^ (-1))) R.2.2.2.1
              rw [show pk_memberSet (pk_fill (yR mo mo.1 W &&& (yR mo mo.1 run.1 ^^^ (-1))) pk so) = yR mo mo.1 W &&& (yR mo mo.1 run.1 ^^^ (-1)) from q2]
              obtain ⟨zz, tg'', ns', mn', c1, c2, c3⟩ := fetch_tail (tg := tg) (mt' := run.2) R hk hu hPin g2 g3
              have eM : md_fetch_L54 (nI s) mo mn mp 0 4 k W mw' = (zz, mn', mw', run.2, md_pack (yR mo mo.1 W &&& (yR mo mo.1 run.1 ^^^ (-1))) mo mp) := by
                rw [← c2, md_fetch_L54]
                simp only [yb]
                by_cases hW0 : W = 0
                · rw [if_pos hW0] at et
                  subst et
                  rw [if_pos hW0, md_reach_eq h60, md_reach_eq h60]
                · rw [if_neg hW0] at et
                  subst et
                  rw [if_neg hW0, md_reach_eq h60, md_reach_eq h60]
              rw [eM]
              have c1' := c1
              rw [c1']
              exact ⟨rfl, c3⟩
        · simp only [if_neg h1, if_neg h2, if_neg h3, if_neg h4]
          exact ⟨(by first | rfl | trivial), R⟩
end FE
end
section
section PU
variable {so : SS} {tk : TS} {pk : PS} {vd tg : Nat → Int32} {ns : Nat → NS} {mo : MO} {mn : MN} {mw : MW} {mt : MT} {mv : Nat → Int32} {mp : MP} {s : Nat}
theorem has_tail {nd : NS} (hs : s < 16) : ∀ (f i : Nat), 4 ≤ i → i + f = 8 → nd_hasValues_L2 (nI s) nd f i = true
  | 0, i, _, _ => rfl
  | f + 1, i, h4, h => by
    rw [nd_hasValues_L2]
    simp only [yb]
    rw [if_neg (ch4 s hs i (by omega) h4)]
    exact has_tail hs f (i + 1) (by omega) (by omega)
theorem has_L {nd : NS} {k : Nat} (hs : s < 16) (ho : mo.1 ≤ 60) (hV : RV nd.1 mn.2.1 k mo.1) : ∀ (f i : Nat), i + f = 4 → md_push_L46 (nI s) mo mn mw mv mp f i k = if nd_hasValues_L2 (nI s) nd (f + 4) i = true then md_push_L87 (nI s) mo mn mw mp 4 0 k true mv else ((-1), mn, mw, mv, mp)
  | 0, i, h => by
    rw [has_tail hs 4 i (by omega) (by omega), if_pos rfl]
    rfl
  | f + 1, i, h => by
    have ih := has_L (k := k) (nd := nd) hs ho hV f (i + 1) (by omega)
    have eH : nd_hasValues_L2 (nI s) nd (f + 1 + 4) i = (if px_isChosen (nI s) (nI i) = true then (if nd.1 i = -1 then false else nd_hasValues_L2 (nI s) nd (f + 4) (i + 1)) else nd_hasValues_L2 (nI s) nd (f + 4) (i + 1)) := by
      rw [show f + 1 + 4 = (f + 4) + 1 by omega]
      rfl
    rw [md_push_L46]
    by_cases hc : px_isChosen (nI s) (nI i) = true
    · obtain ⟨v, hv, v1, v2⟩ := hV i (by omega)
      rw [if_pos hc] at eH
      rw [if_pos ((chb1 s hs i (by omega)).mpr hc)]
      by_cases h0 : v = 0
      · rw [if_pos (show nd.1 i = -1 by rw [v2]; exact (pv_m1 v (by omega)).mpr h0)] at eH
        rw [if_pos (show mn.2.1 (8 * k + i) = 0 by rw [v1]; exact (pw_0 v (by omega)).mpr h0), if_neg (show ¬ nd_hasValues_L2 (nI s) nd (f + 1 + 4) i = true by rw [eH]; decide)]
      · rw [if_neg (show ¬ nd.1 i = -1 by rw [v2]; exact fun hh => h0 ((pv_m1 v (by omega)).mp hh))] at eH
        rw [if_neg (show ¬ mn.2.1 (8 * k + i) = 0 by rw [v1]; exact fun hh => h0 ((pw_0 v (by omega)).mp hh)), eH]
        exact ih
    · rw [if_neg hc] at eH
      rw [if_neg (fun hh => hc ((chb1 s hs i (by omega)).mp hh)), eH]
      exact ih
theorem has_all {nd : NS} {set : Int32} : ∀ (f i : Nat), nd_hasValues_L2 set nd f i = true → ∀ j, i ≤ j → j < i + f → px_isChosen set (nI j) = true → ¬ nd.1 j = -1
  | 0, i, _ => fun j h1 h2 => absurd h1 (by omega)
  | f + 1, i, h => by
    rw [nd_hasValues_L2] at h
    simp only [yb] at h
    intro j h1 h2 hc
    rcases Nat.lt_or_eq_of_le h1 with h3 | h3
    · refine has_all f (i + 1) ?_ j h3 (by omega) hc
      split at h
      · split at h
        · cases h
        · exact h
      · exact h
    · subst h3
      rw [if_pos hc] at h
      intro hm
      rw [if_pos hm] at h
      cases h
theorem verdict_eq {nd ne : NS} {k i : Nat} (HO : OBJ so mo) (hi : i < 4) (N : NOD nd mn k mo.1) (N0 : NOD ne mn 0 mo.1) (hne : ¬ nd.1 i = -1) : px_verdictOn i so nd ne = md_judge i (mn.2.1 (8 * k + 4 + i)) (mn.2.1 (8 * k + i)) mo mn ∧ (px_verdictOn i so nd ne = 1 ∨ px_verdictOn i so nd ne = 2 ∨ px_verdictOn i so nd ne = 3) := by
  have h60 := HO.2.1
  obtain ⟨v, hv, v1, v2⟩ := N.1 i (by omega)
  obtain ⟨u, hu, u1, u2⟩ := N.1 (4 + i) (by omega)
  obtain ⟨t, ht, t1, t2⟩ := N0.1 i (by omega)
  rw [Nat.mul_zero, Nat.zero_add] at t1
  rw [← Nat.add_assoc] at u1
  unfold px_verdictOn md_judge
  simp only [yb]
  rw [valueOf_nI (by omega), valueOf_nI (by omega), valueOf_nI (by omega), u2, t2, v2, u1, t1, v1]
  rw [v2] at hne
  have hv0 : v ≠ 0 := fun h => hne ((pv_m1 v (by omega)).mpr h)
  by_cases htu : t = u
  · rw [htu, if_pos rfl, if_pos rfl]
    by_cases hu0 : u = 0
    · rw [if_pos ((pv_m1 u (by omega)).mpr hu0), if_pos ((pw_le u (by omega)).mpr hu0)]
      exact ⟨rfl, Or.inl rfl⟩
    · rw [if_neg (fun hh => hu0 ((pv_m1 u (by omega)).mp hh)), if_neg (fun hh => hu0 ((pw_le u (by omega)).mp hh))]
      obtain ⟨w, rfl⟩ : ∃ w, v = w + 1 := ⟨v - 1, by omega⟩
      obtain ⟨x, rfl⟩ : ∃ x, u = x + 1 := ⟨u - 1, by omega⟩
      rw [nI_pred, nI_pred, st_reachOf_nI HO (by omega), md_reach_eq h60, px_isIn_nI (by omega)]
      by_cases hb : yx (yR mo mo.1 (ylshl 1 (nI w))) x = true
      · rw [if_pos hb, if_neg (fun hh => by rw [(yx_shr_0 _ (by omega)).mp hh] at hb; cases hb)]
        exact ⟨rfl, Or.inl rfl⟩
      · rw [if_neg hb, if_pos ((yx_shr_0 _ (by omega)).mpr ((Bool.not_eq_true _).mp hb))]
        exact ⟨rfl, Or.inr (Or.inr rfl)⟩
  · rw [if_neg (fun hh => htu ((pv_inj (by omega) (by omega)).mp hh)), if_neg (fun hh => htu ((nI_eq (by omega) (by omega)).mp hh))]
    exact ⟨rfl, Or.inr (Or.inl rfl)⟩
theorem judge_L {nd ne : NS} {k : Nat} (HO : OBJ so mo) (hs : s < 16) (N : NOD nd mn k mo.1) (N0 : NOD ne mn 0 mo.1) (hA : ∀ j, j < 4 → px_isChosen (nI s) (nI j) = true → ¬ nd.1 j = -1) : ∀ (f i : Nat) (good : Bool) (vd : Nat → Int32), i + f = 4 → md_push_L87 (nI s) mo mn mw mp f i k good vd = md_push_L87 (nI s) mo mn mw mp 0 4 k (px_judge_L6 (nI s) so nd ne f i good vd).1 (px_judge_L6 (nI s) so nd ne f i good vd).2
  | 0, i, good, vd, h => by
    have e : i = 4 := by omega
    subst e
    rfl
  | f + 1, i, good, vd, h => by
    rw [md_push_L87.eq_2, px_judge_L6.eq_2]
    simp only [yb, upd_at]
    by_cases hc : px_isChosen (nI s) (nI i) = true
    · obtain ⟨e1, e2⟩ := verdict_eq HO (i := i) (by omega) N N0 (hA i (by omega) hc)
      rw [if_pos hc, if_neg (fun hh => (chb0 s hs i (by omega)).mp hh hc), ← e1]
      cases good with
      | false =>
        rw [if_neg (by decide), if_neg (by decide)]
        exact judge_L HO hs N N0 hA f (i + 1) _ _ (by omega)
      | true =>
        rw [if_pos rfl, if_pos rfl]
        rcases e2 with e2 | e2 | e2
        · rw [if_neg (show ¬ (2 : Int32) ≤ px_verdictOn i so nd ne by rw [e2]; decide), if_neg (show ¬ px_verdictOn i so nd ne = 0 by rw [e2]; decide), if_pos e2]
          exact judge_L HO hs N N0 hA f (i + 1) _ _ (by omega)
        · rw [if_pos (show (2 : Int32) ≤ px_verdictOn i so nd ne by rw [e2]; decide), if_neg (show ¬ px_verdictOn i so nd ne = 0 by rw [e2]; decide), if_neg (show ¬ px_verdictOn i so nd ne = 1 by rw [e2]; decide)]
          exact judge_L HO hs N N0 hA f (i + 1) _ _ (by omega)
        · rw [if_pos (show (2 : Int32) ≤ px_verdictOn i so nd ne by rw [e2]; decide), if_neg (show ¬ px_verdictOn i so nd ne = 0 by rw [e2]; decide), if_neg (show ¬ px_verdictOn i so nd ne = 1 by rw [e2]; decide)]
          exact judge_L HO hs N N0 hA f (i + 1) _ _ (by omega)
    · rw [if_neg hc, if_pos ((chb0 s hs i (by omega)).mpr hc)]
      cases good with
      | false =>
        rw [if_neg (by decide), if_neg (by decide)]
        exact judge_L HO hs N N0 hA f (i + 1) _ _ (by omega)
      | true =>
        rw [if_pos rfl, if_pos rfl, if_neg (by decide), if_pos (by decide)]
        exact judge_L HO hs N N0 hA f (i + 1) _ _ (by omega)
theorem pack_0L {kk : Nat} {K : MP → MP} {mp : MP} : ∀ x : Nat, x ≤ 60 → md_pack_L19 0 kk mo K x mp = K mp
  | 0, _ => rfl
  | x + 1, h => by
    rw [md_pack_L19, if_neg (fun hh => by
      have := (yx_shr_1 0 (by omega)).mp hh
      rw [yx_0] at this
      cases this)]
    exact pack_0L x (by omega)
theorem pack_0 (ho : mo.1 ≤ 60) : md_pack 0 mo mp = (0, mp.2.1, mp.2.2.1, mp.2.2.2.1, mp.2.2.2.2) := by
  rw [md_pack, md_pack_L7, pack_0L mo.1 ho, md_pack_L7, pack_0L mo.1 ho, md_pack_L7, pack_0L mo.1 ho]
  rfl
theorem fresh_L {nd : NS} {k : Nat} (hs : s < 16) (ho : mo.1 ≤ 60) (hV : RV nd.1 mn.2.1 k mo.1) (hA : ∀ j, j < 4 → px_isChosen (nI s) (nI j) = true → ¬ nd.1 j = -1) : ∀ (f i : Nat) (acc : Int64), i + f = 4 → md_carry_L5 k (nI s) mo mn mw mp f i acc = md_carry_L5 k (nI s) mo mn mw mp 0 4 (nd_commitsOf_L5 (nI s) nd (f + 4) i acc)
  | 0, i, acc, h => by
    have e : i = 4 := by omega
    subst e
    rw [commits_tail hs 4 4 acc (by omega) (by omega)]
  | f + 1, i, acc, h => by
    rw [md_carry_L5.eq_2, show f + 1 + 4 = (f + 4) + 1 by omega, nd_commitsOf_L5]
    simp only [yb]
    by_cases hc : px_isChosen (nI s) (nI i) = true
    · obtain ⟨v, hv, v1, v2⟩ := hV i (by omega)
      rw [if_pos hc, if_pos ((chb1 s hs i (by omega)).mpr hc), if_neg (hA i (by omega) hc), v1, v2]
      exact fresh_L hs ho hV hA f (i + 1) _ (by omega)
    · rw [if_neg hc, if_neg (fun hh => hc ((chb1 s hs i (by omega)).mp hh))]
      exact fresh_L hs ho hV hA f (i + 1) _ (by omega)
theorem tips15_tail {ne : NS} : ∀ (f i : Nat) (acc : Int64), 4 ≤ i → i + f = 8 → nd_commitsOf_L5 15 ne f i acc = acc := commits_tail (s := 15) (by decide)
theorem tips15_L {ne : NS} {n : Nat} (hV : RV ne.1 mn.2.1 0 n) (hn : n ≤ 60) : ∀ (f i : Nat) (acc : Int64), i + f = 4 → nd_commitsOf_L5 15 ne (f + 4) i acc = md_tips_L6 0 mn f i acc
  | 0, i, acc, h => by
    rw [Nat.zero_add, tips15_tail 4 i acc (by omega) (by omega)]
    rfl
  | f + 1, i, acc, h => by
    rw [show f + 1 + 4 = (f + 4) + 1 by omega, nd_commitsOf_L5, md_tips_L6]
    simp only [yb]
    obtain ⟨v, hv, v1, v2⟩ := hV i (by omega)
    rw [chosen_own i (by omega), decide_eq_true (show i < 4 by omega), if_pos rfl, v1, v2]
    by_cases h0 : v = 0
    · rw [if_pos ((pv_m1 v (by omega)).mpr h0), if_pos ((pw_le v (by omega)).mpr h0)]
      exact tips15_L hV hn f (i + 1) acc (by omega)
    · rw [if_neg (fun hh => h0 ((pv_m1 v (by omega)).mp hh)), if_neg (fun hh => h0 ((pw_le v (by omega)).mp hh))]
      exact tips15_L hV hn f (i + 1) _ (by omega)
theorem wish_L {nd : NS} {k n sd sh : Nat} {K : MW → Bool × MN × MW × MP} (hs : s < 16) (hn : n ≤ 60) (hsd : (sd = 0 ∧ sh = 0) ∨ (sd = 1 ∧ sh = 4)) (hV : RV nd.1 mn.2.1 k n) (hA : ∀ j, j < 4 → px_isChosen (nI s) (nI j) = true → ¬ nd.1 j = -1) : ∀ (f i : Nat) (mw : MW) (tg : Nat → Int32), i + f = 4 → mw.1 ≤ i → ylP tg mw.2.1 mw.2.2 0 n (sh + i) mw.1 → (∀ j, sh + i ≤ j → j < 8 → tg j = -2) → ∃ mw' : MW, md_carry_L119 k (nI s) sd mn K f i mw = K mw' ∧ mw'.1 ≤ 4 ∧ ylP (px_aimAtValues_L7 (nI s) sh nd f i tg) mw'.2.1 mw'.2.2 0 n 8 mw'.1
  | 0, i, mw, tg, h, hm, hL, h2 => by
    refine ⟨mw, rfl, by omega, ?_⟩
    have t := ylP_pad hL (8 - (sh + i)) (fun j h1 h3 => h2 j h1 (by omega))
    rw [show sh + i + (8 - (sh + i)) = 8 by omega] at t
    exact t
  | f + 1, i, mw, tg, h, hm, hL, h2 => by
    have hL1 := ylP_none (h2 (sh + i) (by omega) (by omega)) hL
    have h2' : ∀ j, sh + (i + 1) ≤ j → j < 8 → tg j = -2 := fun j h1 h3 => h2 j (by omega) h3
    rw [md_carry_L119, px_aimAtValues_L7]
    simp only [yb]
    by_cases hc : px_isChosen (nI s) (nI i) = true
    · obtain ⟨v, hv, v1, v2⟩ := hV i (by omega)
      rw [if_pos hc, if_pos ((chb1 s hs i (by omega)).mpr hc), valueOf_nI (by omega), if_neg (hA i (by omega) hc), v1, v2, show i + sh = sh + i by omega]
      have hLw := ylP_wish (mw := mw) (v := v) (show sh + i < 8 by omega) hv hL
      have go := wish_L (k := k) (K := K) hs hn hsd hV hA f (i + 1) (md_wish (sh + i) (nI v) mw) (upd tg (sh + i) (nI v - 1)) (by omega) (by show mw.1 + 1 ≤ i + 1; omega) hLw (fun j h1 h3 => by rw [upd_ne _ _ (by omega)]; exact h2' j h1 h3)
      rcases hsd with ⟨rfl, rfl⟩ | ⟨rfl, rfl⟩
      · rw [if_pos (show nI 0 = 0 from rfl)]
        rw [Nat.zero_add] at go ⊢
        exact go
      · rw [if_neg (show ¬ nI 1 = 0 by decide +kernel)]
        exact go
    · rw [if_neg hc, if_neg (fun hh => hc ((chb1 s hs i (by omega)).mp hh))]
      exact wish_L (k := k) (K := K) hs hn hsd hV hA f (i + 1) mw tg (by omega) (by omega) hL1 h2'
theorem carry_end {k : Nat} {P : Int64} (R : REL so tk pk vd ns mo mn mt mv mp) (hs : s < 16) (hk : k < 3) (hk0 : k ≠ 0) (hu : nd_isUp (ns k) = true) (hu0 : nd_isUp (ns 0) = true) (hP : yin P mo.1) (hA : ∀ j, j < 4 → px_isChosen (nI s) (nI j) = true → ¬ (ns k).1 j = -1) {pk' : PS} {mp' : MP} (hpk : pk'.2.2.2.1 = P) (hpc : PCK pk' mp') {vd' : Nat → Int32} :
    (px_carryOutPush (nI s) pk' tg (ns k) (ns 0)).1 = (md_carry_L93 k (nI s) mo 2 0 P mn mw mp').1 ∧ REL so tk pk' vd' (yupF (yupF ns 0 (px_carryOutPush (nI s) pk' tg (ns k) (ns 0)).2.2.2) k (px_carryOutPush (nI s) pk' tg (ns k) (ns 0)).2.2.1) mo (md_carry_L93 k (nI s) mo 2 0 P mn mw mp').2.1 mt vd' (md_carry_L93 k (nI s) mo 2 0 P mn mw mp').2.2.2 := by
  have h60 := R.1.2.1
  obtain ⟨N, U⟩ := R.2.1 k hk
  obtain ⟨N0, U0⟩ := R.2.1 0 (by decide)
  have R1 : REL so tk pk' vd' ns mo mn mt vd' mp' := ⟨R.1, R.2.1, R.2.2.1, hpc, rfl⟩
  obtain ⟨⟨s1, s2, s3, s4, s5⟩, _⟩ := n_store h60 hP N0 U0 hu0
  unfold px_carryOutPush
  simp only [yb]
  rw [show pk_memberSet pk' = P from hpk, md_carry_L93, if_pos (show nI 0 = 0 from rfl)]
  obtain ⟨mw1, w1, w2, w3⟩ := wish_L (k := k) (sd := 0) (sh := 0) (nd := ns k) (K := fun mw => (yb (md_store 0 P mo mn) fun r10 => (if r10.1 = true then (yb (md_transact 0 r10.2 mw) fun r12 => (if r12.1 = true then (md_carry_L93 k (nI s) mo 1 (0 + 1) P r12.2 mw mp') else (false, r12.2, mw, mp'))) else (false, r10.2, mw, mp')))) hs h60 (Or.inl ⟨rfl, rfl⟩) N.1 hA 4 0 (0, mw.2.1, mw.2.2) (px_clearTargets tg) (by omega) (by show 0 ≤ 0; omega) (ylP_nil 0 (fun i hi => absurd hi (by omega))) (fun j _ h8 => clr_8 tg j h8)
  rw [w1]
  simp only [yb]
  have ea : px_aimAtValues (nI s) 0 tg (ns k) = px_aimAtValues_L7 (nI s) 0 (ns k) 4 0 (px_clearTargets tg) := rfl
  rw [← ea] at w3
  by_cases hb : (md_store 0 P mo mn).1 = true
  · have hb' := s1.trans hb
    rw [if_pos hb, if_pos hb']
    obtain ⟨t1, t2, t3, t4, t5⟩ := n_transact (tg := px_aimAtValues (nI s) 0 tg (ns k)) (mw := mw1) h60 s2 s3 (s5 hb') w2 w3
    have A : ∀ q, q ≠ 0 → AGR mn (md_transact 0 (md_store 0 P mo mn).2 mw1).2 q := fun q hq => AGR_trans (s4 q hq) (t4 q hq)
    have R2 := REL_node R1 R.1 (Nat.le_refl _) t2 t3 A
    obtain ⟨N2, U2⟩ := R2.2.1 k hk
    rw [yupF_o _ _ hk0] at N2 U2
    rw [t1]
    by_cases hc : (md_transact 0 (md_store 0 P mo mn).2 mw1).1 = true
    · rw [if_pos hc, if_pos hc, md_carry_L93, if_neg (show ¬ nI (0 + 1) = 0 by decide +kernel)]
      obtain ⟨mw2, x1, x2, x3⟩ := wish_L (k := k) (mn := (md_transact 0 (md_store 0 P mo mn).2 mw1).2) (sd := 0 + 1) (sh := 4) (nd := ns k) (K := fun mw => (yb (md_transact k (md_transact 0 (md_store 0 P mo mn).2 mw1).2 mw) fun r7 => (if r7.1 = true then (md_carry_L93 k (nI s) mo 0 (0 + 1 + 1) P r7.2 mw mp') else (false, r7.2, mw, mp')))) hs h60 (Or.inr ⟨rfl, rfl⟩) N2.1 hA 4 0 (0, mw1.2.1, mw1.2.2) (px_clearTargets (px_aimAtValues (nI s) 0 tg (ns k))) (by omega) (by show 0 ≤ 0; omega) (ylP_nil 4 (fun i hi => clr_8 _ i (by omega))) (fun j _ h8 => clr_8 _ j h8)
      rw [x1]
      simp only [yb]
      have eb : px_aimAtValues (nI s) 4 (px_aimAtValues (nI s) 0 tg (ns k)) (ns k) = px_aimAtValues_L7 (nI s) 4 (ns k) 4 0 (px_clearTargets (px_aimAtValues (nI s) 0 tg (ns k))) := rfl
      rw [← eb] at x3
      obtain ⟨y1, y2, y3, y4, y5⟩ := n_transact (tg := px_aimAtValues (nI s) 4 (px_aimAtValues (nI s) 0 tg (ns k)) (ns k)) (mw := mw2) h60 N2 U2 hu x2 x3
      have R3 := REL_node R2 R.1 (Nat.le_refl _) y2 y3 y4
      by_cases hd : (md_transact k (md_transact 0 (md_store 0 P mo mn).2 mw1).2 mw2).1 = true
      · rw [if_pos hd]
        exact ⟨y1.trans hd, R3⟩
      · rw [if_neg hd]
        exact ⟨y1.trans ((Bool.not_eq_true _).mp hd), R3⟩
    · rw [if_neg hc, if_neg hc]
      exact ⟨rfl, REL_node R2 R.1 (Nat.le_refl _) N2 U2 (fun q _ => AGR_refl _ q)⟩
  · have hb' : ¬ (nd_writeMissing P (ns 0)).1 = true := fun hh => hb (s1.symm.trans hh)
    rw [if_neg hb, if_neg hb']
    have R2 := REL_node R1 R.1 (Nat.le_refl _) s2 s3 s4
    obtain ⟨N2, U2⟩ := R2.2.1 k hk
    rw [yupF_o _ _ hk0] at N2 U2
    exact ⟨rfl, REL_node R2 R.1 (Nat.le_refl _) N2 U2 (fun q _ => AGR_refl _ q)⟩
theorem rel_push (R : REL so tk pk vd ns mo mn mt mv mp) (node set : Int32) : (x_push node set so pk vd tg ns).1 = (md_push node set mo mn mw mv mp).1 ∧ REL so tk (x_push node set so pk vd tg ns).2.1 (x_push node set so pk vd tg ns).2.2.1 (x_push node set so pk vd tg ns).2.2.2.2 mo (md_push node set mo mn mw mv mp).2.1 mt (md_push node set mo mn mw mv mp).2.2.2.1 (md_push node set mo mn mw mv mp).2.2.2.2 := by
  have h60 := R.1.2.1
  have ev : vd = mv := R.2.2.2.2
  unfold x_push md_push
  simp only [yb, yn, isClient_eq, isSet_eq]
  by_cases h1 : node < 1
  · simp only [if_pos h1]
    exact ⟨(by first | rfl | trivial), R⟩
  · by_cases h2 : 2 < node
    · simp only [if_neg h1, if_pos h2]
      exact ⟨(by first | rfl | trivial), R⟩
    · by_cases h3 : set < 1
      · simp only [if_neg h1, if_neg h2, if_pos h3]
        exact ⟨(by first | rfl | trivial), R⟩
      · by_cases h4 : set ≤ 15
        · simp only [if_neg h1, if_neg h2, if_neg h3, if_pos h4]
          obtain ⟨k, hc, hk, en⟩ := yy_natC h1 h2
          obtain ⟨s, hs, rfl⟩ := set_nat h3 h4
          have hk0 : k ≠ 0 := by
            intro hz
            subst hz
            rw [en] at h1
            exact h1 (by decide +kernel)
          simp only [hc]
          obtain ⟨N, U⟩ := R.2.1 k hk
          obtain ⟨N0, U0⟩ := R.2.1 0 (by decide)
          by_cases hd : mn.2.2.1 k = true
          · rw [dark_up N hd, if_pos hd, if_neg (show ¬ false = true by decide)]
            exact ⟨(by first | rfl | trivial), R⟩
          · have hu := lit_up N hd
            rw [hu, if_neg hd, if_pos rfl]
            by_cases hd0 : mn.2.2.1 0 = true
            · rw [dark_up N0 hd0, if_pos hd0, if_neg (show ¬ false = true by decide)]
              exact ⟨(by first | rfl | trivial), R⟩
            · have hu0 := lit_up N0 hd0
              rw [hu0, if_neg hd0, if_pos rfl, has_L (nd := ns k) hs h60 N.1 4 0 (by omega), show nd_hasValues_L2 (nI s) (ns k) (4 + 4) 0 = nd_hasValues (nI s) (ns k) from rfl]
              by_cases hh : nd_hasValues (nI s) (ns k) = true
              · have hA : ∀ j, j < 4 → px_isChosen (nI s) (nI j) = true → ¬ (ns k).1 j = -1 := fun j hj hcj => has_all 8 0 hh j (Nat.zero_le _) (by omega) hcj
                rw [if_pos hh, if_pos hh, ← ev, judge_L R.1 hs N N0 hA 4 0 true vd (by omega), show px_judge_L6 (nI s) so (ns k) (ns 0) 4 0 true vd = px_judge (nI s) so vd (ns k) (ns 0) from rfl, md_push_L87]
                simp only [yb]
                by_cases hj : (px_judge (nI s) so vd (ns k) (ns 0)).1 = true
                · rw [if_pos hj, if_pos hj]
                  have eC : md_carry k (nI s) mo mn mw mp = md_carry_L93 k (nI s) mo 2 0 (yR mo mo.1 (nd_commitsOf (nI s) (ns k)) &&& (yR mo mo.1 (md_tips 0 0 3 mn &&& mn.1 k) ^^^ (-1))) mn mw (md_pack (yR mo mo.1 (nd_commitsOf (nI s) (ns k)) &&& (yR mo mo.1 (md_tips 0 0 3 mn &&& mn.1 k) ^^^ (-1))) mo mp) := by
                    rw [md_carry, fresh_L (nd := ns k) hs h60 N.1 hA 4 0 0 (by omega), show nd_commitsOf_L5 (nI s) (ns k) (4 + 4) 0 0 = nd_commitsOf (nI s) (ns k) from rfl, md_carry_L5]
                    simp only [yb]
                    rw [md_reach_eq h60, md_reach_eq h60]
                  rw [eC]
                  have e15 : nd_commitsOf 15 (ns 0) = md_tips 0 0 3 mn := by
                    unfold nd_commitsOf md_tips
                    exact tips15_L N0.1 h60 4 0 0 (by omega)
                  have hcin : yin (nd_commitsOf (nI s) (ns k)) mo.1 := commits_in h60 N.1 8 0 0 (by omega) yin_0
                  have htin : yin (md_tips 0 0 3 mn) mo.1 := tips_in (RV_ref N0.1) h60 4 0 0 (by omega) yin_0
                  have e9 : nd_heldSet (ns k) = mn.1 k := N.2.2.2.2.1
                  rw [e15, e9, st_reachOfAll_eq R.1 hcin, st_reachOfAll_eq R.1 (yin_and htin)]
                  have hPin : yin (yR mo mo.1 (nd_commitsOf (nI s) (ns k)) &&& (yR mo mo.1 (md_tips 0 0 3 mn &&& mn.1 k) ^^^ (-1))) mo.1 := yin_and (R.1.reachIn hcin)
                  obtain ⟨q1, q2⟩ := fill_pack R.1 (set := yR mo mo.1 (nd_commitsOf (nI s) (ns k)) &&& (yR mo mo.1 (md_tips 0 0 3 mn &&& mn.1 k) ^^^ (-1))) R.2.2.2.1
                  obtain ⟨z1, z2⟩ := carry_end (tg := tg) (mw := mw) (vd' := (px_judge (nI s) so vd (ns k) (ns 0)).2) R hs hk hk0 hu hu0 hPin hA q2 q1
                  rw [z1]
                  split
                  · exact ⟨rfl, z2⟩
                  · exact ⟨rfl, z2⟩
                · rw [if_neg hj, if_neg hj]
                  obtain ⟨q1, q2⟩ := fill_pack R.1 (set := 0) R.2.2.2.1
                  rw [pack_0 h60] at q1
                  exact ⟨rfl, R.1, R.2.1, R.2.2.1, q1, rfl⟩
              · rw [if_neg hh, if_neg hh]
                exact ⟨(by first | rfl | trivial), R⟩
        · simp only [if_neg h1, if_neg h2, if_neg h3, if_neg h4]
          exact ⟨(by first | rfl | trivial), R⟩
end PU
end
section
theorem dX4_isNode_0 : decode cX4_isNode 0 = .ok (.iload_n 0, 1) := by decide +kernel
theorem dX4_isNode_1 : decode cX4_isNode 1 = .ok (.ifCond .lt 12, 3) := by decide +kernel
theorem dX4_isNode_4 : decode cX4_isNode 4 = .ok (.iload_n 0, 1) := by decide +kernel
theorem dX4_isNode_5 : decode cX4_isNode 5 = .ok (.iconst 3, 1) := by decide +kernel
theorem dX4_isNode_6 : decode cX4_isNode 6 = .ok (.if_icmp .ge 7, 3) := by decide +kernel
theorem dX4_isNode_9 : decode cX4_isNode 9 = .ok (.iconst 1, 1) := by decide +kernel
theorem dX4_isNode_10 : decode cX4_isNode 10 = .ok (.goto 4, 3) := by decide +kernel
theorem dX4_isNode_13 : decode cX4_isNode 13 = .ok (.iconst 0, 1) := by decide +kernel
theorem dX4_isNode_14 : decode cX4_isNode 14 = .ok (.ireturn, 1) := by decide +kernel
theorem dX4_isClient_0 : decode cX4_isClient 0 = .ok (.iload_n 0, 1) := by decide +kernel
theorem dX4_isClient_1 : decode cX4_isClient 1 = .ok (.invokestatic 44, 3) := by decide +kernel
theorem dX4_isClient_4 : decode cX4_isClient 4 = .ok (.ifCond .eq 11, 3) := by decide +kernel
theorem dX4_isClient_7 : decode cX4_isClient 7 = .ok (.iload_n 0, 1) := by decide +kernel
theorem dX4_isClient_8 : decode cX4_isClient 8 = .ok (.ifCond .eq 7, 3) := by decide +kernel
theorem dX4_isClient_11 : decode cX4_isClient 11 = .ok (.iconst 1, 1) := by decide +kernel
theorem dX4_isClient_12 : decode cX4_isClient 12 = .ok (.goto 4, 3) := by decide +kernel
theorem dX4_isClient_15 : decode cX4_isClient 15 = .ok (.iconst 0, 1) := by decide +kernel
theorem dX4_isClient_16 : decode cX4_isClient 16 = .ok (.ireturn, 1) := by decide +kernel
theorem dX4_isOwnReference_0 : decode cX4_isOwnReference 0 = .ok (.iload_n 0, 1) := by decide +kernel
theorem dX4_isOwnReference_1 : decode cX4_isOwnReference 1 = .ok (.ifCond .lt 12, 3) := by decide +kernel
theorem dX4_isOwnReference_4 : decode cX4_isOwnReference 4 = .ok (.iload_n 0, 1) := by decide +kernel
theorem dX4_isOwnReference_5 : decode cX4_isOwnReference 5 = .ok (.iconst 4, 1) := by decide +kernel
theorem dX4_isOwnReference_6 : decode cX4_isOwnReference 6 = .ok (.if_icmp .ge 7, 3) := by decide +kernel
theorem dX4_isOwnReference_9 : decode cX4_isOwnReference 9 = .ok (.iconst 1, 1) := by decide +kernel
theorem dX4_isOwnReference_10 : decode cX4_isOwnReference 10 = .ok (.goto 4, 3) := by decide +kernel
theorem dX4_isOwnReference_13 : decode cX4_isOwnReference 13 = .ok (.iconst 0, 1) := by decide +kernel
theorem dX4_isOwnReference_14 : decode cX4_isOwnReference 14 = .ok (.ireturn, 1) := by decide +kernel
theorem dX4_isSet_0 : decode cX4_isSet 0 = .ok (.iload_n 0, 1) := by decide +kernel
theorem dX4_isSet_1 : decode cX4_isSet 1 = .ok (.iconst 1, 1) := by decide +kernel
theorem dX4_isSet_2 : decode cX4_isSet 2 = .ok (.if_icmp .lt 13, 3) := by decide +kernel
theorem dX4_isSet_5 : decode cX4_isSet 5 = .ok (.iload_n 0, 1) := by decide +kernel
theorem dX4_isSet_6 : decode cX4_isSet 6 = .ok (.bipush 15, 2) := by decide +kernel
theorem dX4_isSet_8 : decode cX4_isSet 8 = .ok (.if_icmp .gt 7, 3) := by decide +kernel
theorem dX4_isSet_11 : decode cX4_isSet 11 = .ok (.iconst 1, 1) := by decide +kernel
theorem dX4_isSet_12 : decode cX4_isSet 12 = .ok (.goto 4, 3) := by decide +kernel
theorem dX4_isSet_15 : decode cX4_isSet 15 = .ok (.iconst 0, 1) := by decide +kernel
theorem dX4_isSet_16 : decode cX4_isSet 16 = .ok (.ireturn, 1) := by decide +kernel
theorem dX4_isIn_0 : decode cX4_isIn 0 = .ok (.iload_n 2, 1) := by decide +kernel
theorem dX4_isIn_1 : decode cX4_isIn 1 = .ok (.ifCond .lt 23, 3) := by decide +kernel
theorem dX4_isIn_4 : decode cX4_isIn 4 = .ok (.iload_n 2, 1) := by decide +kernel
theorem dX4_isIn_5 : decode cX4_isIn 5 = .ok (.bipush 60, 2) := by decide +kernel
theorem dX4_isIn_7 : decode cX4_isIn 7 = .ok (.if_icmp .ge 17, 3) := by decide +kernel
theorem dX4_isIn_10 : decode cX4_isIn 10 = .ok (.lload_n 0, 1) := by decide +kernel
theorem dX4_isIn_11 : decode cX4_isIn 11 = .ok (.iload_n 2, 1) := by decide +kernel
theorem dX4_isIn_12 : decode cX4_isIn 12 = .ok (.lushr, 1) := by decide +kernel
theorem dX4_isIn_13 : decode cX4_isIn 13 = .ok (.lconst 1, 1) := by decide +kernel
theorem dX4_isIn_14 : decode cX4_isIn 14 = .ok (.land, 1) := by decide +kernel
theorem dX4_isIn_15 : decode cX4_isIn 15 = .ok (.lconst 0, 1) := by decide +kernel
theorem dX4_isIn_16 : decode cX4_isIn 16 = .ok (.lcmp, 1) := by decide +kernel
theorem dX4_isIn_17 : decode cX4_isIn 17 = .ok (.ifCond .eq 7, 3) := by decide +kernel
theorem dX4_isIn_20 : decode cX4_isIn 20 = .ok (.iconst 1, 1) := by decide +kernel
theorem dX4_isIn_21 : decode cX4_isIn 21 = .ok (.goto 4, 3) := by decide +kernel
theorem dX4_isIn_24 : decode cX4_isIn 24 = .ok (.iconst 0, 1) := by decide +kernel
theorem dX4_isIn_25 : decode cX4_isIn 25 = .ok (.ireturn, 1) := by decide +kernel
theorem dX4_isChosen_0 : decode cX4_isChosen 0 = .ok (.iload_n 0, 1) := by decide +kernel
theorem dX4_isChosen_1 : decode cX4_isChosen 1 = .ok (.iload_n 1, 1) := by decide +kernel
theorem dX4_isChosen_2 : decode cX4_isChosen 2 = .ok (.iushr, 1) := by decide +kernel
theorem dX4_isChosen_3 : decode cX4_isChosen 3 = .ok (.iconst 1, 1) := by decide +kernel
theorem dX4_isChosen_4 : decode cX4_isChosen 4 = .ok (.iand, 1) := by decide +kernel
theorem dX4_isChosen_5 : decode cX4_isChosen 5 = .ok (.ifCond .eq 7, 3) := by decide +kernel
theorem dX4_isChosen_8 : decode cX4_isChosen 8 = .ok (.iconst 1, 1) := by decide +kernel
theorem dX4_isChosen_9 : decode cX4_isChosen 9 = .ok (.goto 4, 3) := by decide +kernel
theorem dX4_isChosen_12 : decode cX4_isChosen 12 = .ok (.iconst 0, 1) := by decide +kernel
theorem dX4_isChosen_13 : decode cX4_isChosen 13 = .ok (.ireturn, 1) := by decide +kernel
theorem dX0_isUp_0 : decode cX0_isUp 0 = .ok (.aload_n 0, 1) := by decide +kernel
theorem dX0_isUp_1 : decode cX0_isUp 1 = .ok (.getfield 30, 3) := by decide +kernel
theorem dX0_isUp_4 : decode cX0_isUp 4 = .ok (.ireturn, 1) := by decide +kernel
theorem dX0_armWith_0 : decode cX0_armWith 0 = .ok (.aload_n 0, 1) := by decide +kernel
theorem dX0_armWith_1 : decode cX0_armWith 1 = .ok (.iload_n 1, 1) := by decide +kernel
theorem dX0_armWith_2 : decode cX0_armWith 2 = .ok (.putfield 33, 3) := by decide +kernel
theorem dX0_armWith_5 : decode cX0_armWith 5 = .ok (.return_, 1) := by decide +kernel
theorem dX0_write_0 : decode cX0_write 0 = .ok (.aload_n 0, 1) := by decide +kernel
theorem dX0_write_1 : decode cX0_write 1 = .ok (.getfield 33, 3) := by decide +kernel
theorem dX0_write_4 : decode cX0_write 4 = .ok (.ifCond .ne 15, 3) := by decide +kernel
theorem dX0_write_7 : decode cX0_write 7 = .ok (.aload_n 0, 1) := by decide +kernel
theorem dX0_write_8 : decode cX0_write 8 = .ok (.iconst 0, 1) := by decide +kernel
theorem dX0_write_9 : decode cX0_write 9 = .ok (.putfield 30, 3) := by decide +kernel
theorem dX0_write_12 : decode cX0_write 12 = .ok (.aload_n 0, 1) := by decide +kernel
theorem dX0_write_13 : decode cX0_write 13 = .ok (.iconst (-1), 1) := by decide +kernel
theorem dX0_write_14 : decode cX0_write 14 = .ok (.putfield 33, 3) := by decide +kernel
theorem dX0_write_17 : decode cX0_write 17 = .ok (.iconst 0, 1) := by decide +kernel
theorem dX0_write_18 : decode cX0_write 18 = .ok (.ireturn, 1) := by decide +kernel
theorem dX0_write_19 : decode cX0_write 19 = .ok (.aload_n 0, 1) := by decide +kernel
theorem dX0_write_20 : decode cX0_write 20 = .ok (.getfield 33, 3) := by decide +kernel
theorem dX0_write_23 : decode cX0_write 23 = .ok (.ifCond .le 13, 3) := by decide +kernel
theorem dX0_write_26 : decode cX0_write 26 = .ok (.aload_n 0, 1) := by decide +kernel
theorem dX0_write_27 : decode cX0_write 27 = .ok (.dup, 1) := by decide +kernel
theorem dX0_write_28 : decode cX0_write 28 = .ok (.getfield 33, 3) := by decide +kernel
theorem dX0_write_31 : decode cX0_write 31 = .ok (.iconst 1, 1) := by decide +kernel
theorem dX0_write_32 : decode cX0_write 32 = .ok (.isub, 1) := by decide +kernel
theorem dX0_write_33 : decode cX0_write 33 = .ok (.putfield 33, 3) := by decide +kernel
theorem dX0_write_36 : decode cX0_write 36 = .ok (.iconst 1, 1) := by decide +kernel
theorem dX0_write_37 : decode cX0_write 37 = .ok (.ireturn, 1) := by decide +kernel
theorem dX0_heldSet_0 : decode cX0_heldSet 0 = .ok (.aload_n 0, 1) := by decide +kernel
theorem dX0_heldSet_1 : decode cX0_heldSet 1 = .ok (.getfield 26, 3) := by decide +kernel
theorem dX0_heldSet_4 : decode cX0_heldSet 4 = .ok (.lreturn, 1) := by decide +kernel
theorem dX0_keep_0 : decode cX0_keep 0 = .ok (.iload_n 1, 1) := by decide +kernel
theorem dX0_keep_1 : decode cX0_keep 1 = .ok (.ifCond .lt 21, 3) := by decide +kernel
theorem dX0_keep_4 : decode cX0_keep 4 = .ok (.iload_n 1, 1) := by decide +kernel
theorem dX0_keep_5 : decode cX0_keep 5 = .ok (.bipush 60, 2) := by decide +kernel
theorem dX0_keep_7 : decode cX0_keep 7 = .ok (.if_icmp .ge 15, 3) := by decide +kernel
theorem dX0_keep_10 : decode cX0_keep 10 = .ok (.aload_n 0, 1) := by decide +kernel
theorem dX0_keep_11 : decode cX0_keep 11 = .ok (.dup, 1) := by decide +kernel
theorem dX0_keep_12 : decode cX0_keep 12 = .ok (.getfield 26, 3) := by decide +kernel
theorem dX0_keep_15 : decode cX0_keep 15 = .ok (.lconst 1, 1) := by decide +kernel
theorem dX0_keep_16 : decode cX0_keep 16 = .ok (.iload_n 1, 1) := by decide +kernel
theorem dX0_keep_17 : decode cX0_keep 17 = .ok (.lshl, 1) := by decide +kernel
theorem dX0_keep_18 : decode cX0_keep 18 = .ok (.lor, 1) := by decide +kernel
theorem dX0_keep_19 : decode cX0_keep 19 = .ok (.putfield 26, 3) := by decide +kernel
theorem dX0_keep_22 : decode cX0_keep 22 = .ok (.return_, 1) := by decide +kernel
theorem dJL_bitCount_0 : decode cJL_bitCount 0 = .ok (.lload_n 0, 1) := by decide +kernel
theorem dJL_bitCount_1 : decode cJL_bitCount 1 = .ok (.lload_n 0, 1) := by decide +kernel
theorem dJL_bitCount_2 : decode cJL_bitCount 2 = .ok (.iconst 1, 1) := by decide +kernel
theorem dJL_bitCount_3 : decode cJL_bitCount 3 = .ok (.lushr, 1) := by decide +kernel
theorem dJL_bitCount_4 : decode cJL_bitCount 4 = .ok (.ldc2_w 314, 3) := by decide +kernel
theorem dJL_bitCount_7 : decode cJL_bitCount 7 = .ok (.land, 1) := by decide +kernel
theorem dJL_bitCount_8 : decode cJL_bitCount 8 = .ok (.lsub, 1) := by decide +kernel
theorem dJL_bitCount_9 : decode cJL_bitCount 9 = .ok (.lstore_n 0, 1) := by decide +kernel
theorem dJL_bitCount_10 : decode cJL_bitCount 10 = .ok (.lload_n 0, 1) := by decide +kernel
theorem dJL_bitCount_11 : decode cJL_bitCount 11 = .ok (.ldc2_w 316, 3) := by decide +kernel
theorem dJL_bitCount_14 : decode cJL_bitCount 14 = .ok (.land, 1) := by decide +kernel
theorem dJL_bitCount_15 : decode cJL_bitCount 15 = .ok (.lload_n 0, 1) := by decide +kernel
theorem dJL_bitCount_16 : decode cJL_bitCount 16 = .ok (.iconst 2, 1) := by decide +kernel
theorem dJL_bitCount_17 : decode cJL_bitCount 17 = .ok (.lushr, 1) := by decide +kernel
theorem dJL_bitCount_18 : decode cJL_bitCount 18 = .ok (.ldc2_w 316, 3) := by decide +kernel
theorem dJL_bitCount_21 : decode cJL_bitCount 21 = .ok (.land, 1) := by decide +kernel
theorem dJL_bitCount_22 : decode cJL_bitCount 22 = .ok (.ladd, 1) := by decide +kernel
theorem dJL_bitCount_23 : decode cJL_bitCount 23 = .ok (.lstore_n 0, 1) := by decide +kernel
theorem dJL_bitCount_24 : decode cJL_bitCount 24 = .ok (.lload_n 0, 1) := by decide +kernel
theorem dJL_bitCount_25 : decode cJL_bitCount 25 = .ok (.lload_n 0, 1) := by decide +kernel
theorem dJL_bitCount_26 : decode cJL_bitCount 26 = .ok (.iconst 4, 1) := by decide +kernel
theorem dJL_bitCount_27 : decode cJL_bitCount 27 = .ok (.lushr, 1) := by decide +kernel
theorem dJL_bitCount_28 : decode cJL_bitCount 28 = .ok (.ladd, 1) := by decide +kernel
theorem dJL_bitCount_29 : decode cJL_bitCount 29 = .ok (.ldc2_w 318, 3) := by decide +kernel
theorem dJL_bitCount_32 : decode cJL_bitCount 32 = .ok (.land, 1) := by decide +kernel
theorem dJL_bitCount_33 : decode cJL_bitCount 33 = .ok (.lstore_n 0, 1) := by decide +kernel
theorem dJL_bitCount_34 : decode cJL_bitCount 34 = .ok (.lload_n 0, 1) := by decide +kernel
theorem dJL_bitCount_35 : decode cJL_bitCount 35 = .ok (.lload_n 0, 1) := by decide +kernel
theorem dJL_bitCount_36 : decode cJL_bitCount 36 = .ok (.bipush 8, 2) := by decide +kernel
theorem dJL_bitCount_38 : decode cJL_bitCount 38 = .ok (.lushr, 1) := by decide +kernel
theorem dJL_bitCount_39 : decode cJL_bitCount 39 = .ok (.ladd, 1) := by decide +kernel
theorem dJL_bitCount_40 : decode cJL_bitCount 40 = .ok (.lstore_n 0, 1) := by decide +kernel
theorem dJL_bitCount_41 : decode cJL_bitCount 41 = .ok (.lload_n 0, 1) := by decide +kernel
theorem dJL_bitCount_42 : decode cJL_bitCount 42 = .ok (.lload_n 0, 1) := by decide +kernel
theorem dJL_bitCount_43 : decode cJL_bitCount 43 = .ok (.bipush 16, 2) := by decide +kernel
theorem dJL_bitCount_45 : decode cJL_bitCount 45 = .ok (.lushr, 1) := by decide +kernel
theorem dJL_bitCount_46 : decode cJL_bitCount 46 = .ok (.ladd, 1) := by decide +kernel
theorem dJL_bitCount_47 : decode cJL_bitCount 47 = .ok (.lstore_n 0, 1) := by decide +kernel
theorem dJL_bitCount_48 : decode cJL_bitCount 48 = .ok (.lload_n 0, 1) := by decide +kernel
theorem dJL_bitCount_49 : decode cJL_bitCount 49 = .ok (.lload_n 0, 1) := by decide +kernel
theorem dJL_bitCount_50 : decode cJL_bitCount 50 = .ok (.bipush 32, 2) := by decide +kernel
theorem dJL_bitCount_52 : decode cJL_bitCount 52 = .ok (.lushr, 1) := by decide +kernel
theorem dJL_bitCount_53 : decode cJL_bitCount 53 = .ok (.ladd, 1) := by decide +kernel
theorem dJL_bitCount_54 : decode cJL_bitCount 54 = .ok (.lstore_n 0, 1) := by decide +kernel
theorem dJL_bitCount_55 : decode cJL_bitCount 55 = .ok (.lload_n 0, 1) := by decide +kernel
theorem dJL_bitCount_56 : decode cJL_bitCount 56 = .ok (.l2i, 1) := by decide +kernel
theorem dJL_bitCount_57 : decode cJL_bitCount 57 = .ok (.bipush 127, 2) := by decide +kernel
theorem dJL_bitCount_59 : decode cJL_bitCount 59 = .ok (.iand, 1) := by decide +kernel
theorem dJL_bitCount_60 : decode cJL_bitCount 60 = .ok (.ireturn, 1) := by decide +kernel
theorem dX0_keepOnly_0 : decode cX0_keepOnly 0 = .ok (.aload_n 0, 1) := by decide +kernel
theorem dX0_keepOnly_1 : decode cX0_keepOnly 1 = .ok (.getfield 26, 3) := by decide +kernel
theorem dX0_keepOnly_4 : decode cX0_keepOnly 4 = .ok (.invokestatic 36, 3) := by decide +kernel
theorem dX0_keepOnly_7 : decode cX0_keepOnly 7 = .ok (.istore_n 3, 1) := by decide +kernel
theorem dX0_keepOnly_8 : decode cX0_keepOnly 8 = .ok (.aload_n 0, 1) := by decide +kernel
theorem dX0_keepOnly_9 : decode cX0_keepOnly 9 = .ok (.dup, 1) := by decide +kernel
theorem dX0_keepOnly_10 : decode cX0_keepOnly 10 = .ok (.getfield 26, 3) := by decide +kernel
theorem dX0_keepOnly_13 : decode cX0_keepOnly 13 = .ok (.lload_n 1, 1) := by decide +kernel
theorem dX0_keepOnly_14 : decode cX0_keepOnly 14 = .ok (.land, 1) := by decide +kernel
theorem dX0_keepOnly_15 : decode cX0_keepOnly 15 = .ok (.putfield 26, 3) := by decide +kernel
theorem dX0_keepOnly_18 : decode cX0_keepOnly 18 = .ok (.iload_n 3, 1) := by decide +kernel
theorem dX0_keepOnly_19 : decode cX0_keepOnly 19 = .ok (.aload_n 0, 1) := by decide +kernel
theorem dX0_keepOnly_20 : decode cX0_keepOnly 20 = .ok (.getfield 26, 3) := by decide +kernel
theorem dX0_keepOnly_23 : decode cX0_keepOnly 23 = .ok (.invokestatic 36, 3) := by decide +kernel
theorem dX0_keepOnly_26 : decode cX0_keepOnly 26 = .ok (.isub, 1) := by decide +kernel
theorem dX0_keepOnly_27 : decode cX0_keepOnly 27 = .ok (.ireturn, 1) := by decide +kernel
theorem dX0_valueOf_0 : decode cX0_valueOf 0 = .ok (.iload_n 1, 1) := by decide +kernel
theorem dX0_valueOf_1 : decode cX0_valueOf 1 = .ok (.ifCond .lt 18, 3) := by decide +kernel
theorem dX0_valueOf_4 : decode cX0_valueOf 4 = .ok (.iload_n 1, 1) := by decide +kernel
theorem dX0_valueOf_5 : decode cX0_valueOf 5 = .ok (.bipush 8, 2) := by decide +kernel
theorem dX0_valueOf_7 : decode cX0_valueOf 7 = .ok (.if_icmp .ge 12, 3) := by decide +kernel
theorem dX0_valueOf_10 : decode cX0_valueOf 10 = .ok (.aload_n 0, 1) := by decide +kernel
theorem dX0_valueOf_11 : decode cX0_valueOf 11 = .ok (.getfield 9, 3) := by decide +kernel
theorem dX0_valueOf_14 : decode cX0_valueOf 14 = .ok (.iload_n 1, 1) := by decide +kernel
theorem dX0_valueOf_15 : decode cX0_valueOf 15 = .ok (.iaload, 1) := by decide +kernel
theorem dX0_valueOf_16 : decode cX0_valueOf 16 = .ok (.goto 4, 3) := by decide +kernel
theorem dX0_valueOf_19 : decode cX0_valueOf 19 = .ok (.iconst (-1), 1) := by decide +kernel
theorem dX0_valueOf_20 : decode cX0_valueOf 20 = .ok (.ireturn, 1) := by decide +kernel
theorem dX0_writeMissing_0 : decode cX0_writeMissing 0 = .ok (.lload_n 1, 1) := by decide +kernel
theorem dX0_writeMissing_1 : decode cX0_writeMissing 1 = .ok (.aload_n 0, 1) := by decide +kernel
theorem dX0_writeMissing_2 : decode cX0_writeMissing 2 = .ok (.getfield 26, 3) := by decide +kernel
theorem dX0_writeMissing_5 : decode cX0_writeMissing 5 = .ok (.ldc2_w 42, 3) := by decide +kernel
theorem dX0_writeMissing_8 : decode cX0_writeMissing 8 = .ok (.lxor, 1) := by decide +kernel
theorem dX0_writeMissing_9 : decode cX0_writeMissing 9 = .ok (.land, 1) := by decide +kernel
theorem dX0_writeMissing_10 : decode cX0_writeMissing 10 = .ok (.lstore_n 3, 1) := by decide +kernel
theorem dX0_writeMissing_11 : decode cX0_writeMissing 11 = .ok (.iconst 0, 1) := by decide +kernel
theorem dX0_writeMissing_12 : decode cX0_writeMissing 12 = .ok (.istore 5, 2) := by decide +kernel
theorem dX0_writeMissing_14 : decode cX0_writeMissing 14 = .ok (.iload 5, 2) := by decide +kernel
theorem dX0_writeMissing_16 : decode cX0_writeMissing 16 = .ok (.bipush 60, 2) := by decide +kernel
theorem dX0_writeMissing_18 : decode cX0_writeMissing 18 = .ok (.if_icmp .ge 33, 3) := by decide +kernel
theorem dX0_writeMissing_21 : decode cX0_writeMissing 21 = .ok (.lload_n 3, 1) := by decide +kernel
theorem dX0_writeMissing_22 : decode cX0_writeMissing 22 = .ok (.iload 5, 2) := by decide +kernel
theorem dX0_writeMissing_24 : decode cX0_writeMissing 24 = .ok (.invokestatic 44, 3) := by decide +kernel
theorem dX0_writeMissing_27 : decode cX0_writeMissing 27 = .ok (.ifCond .eq 18, 3) := by decide +kernel
theorem dX0_writeMissing_30 : decode cX0_writeMissing 30 = .ok (.aload_n 0, 1) := by decide +kernel
theorem dX0_writeMissing_31 : decode cX0_writeMissing 31 = .ok (.invokevirtual 48, 3) := by decide +kernel
theorem dX0_writeMissing_34 : decode cX0_writeMissing 34 = .ok (.ifCond .ne 5, 3) := by decide +kernel
theorem dX0_writeMissing_37 : decode cX0_writeMissing 37 = .ok (.iconst 0, 1) := by decide +kernel
theorem dX0_writeMissing_38 : decode cX0_writeMissing 38 = .ok (.ireturn, 1) := by decide +kernel
theorem dX0_writeMissing_39 : decode cX0_writeMissing 39 = .ok (.aload_n 0, 1) := by decide +kernel
theorem dX0_writeMissing_40 : decode cX0_writeMissing 40 = .ok (.iload 5, 2) := by decide +kernel
theorem dX0_writeMissing_42 : decode cX0_writeMissing 42 = .ok (.invokevirtual 52, 3) := by decide +kernel
theorem dX0_writeMissing_45 : decode cX0_writeMissing 45 = .ok (.iinc 5 1, 3) := by decide +kernel
theorem dX0_writeMissing_48 : decode cX0_writeMissing 48 = .ok (.goto (-34), 3) := by decide +kernel
theorem dX0_writeMissing_51 : decode cX0_writeMissing 51 = .ok (.iconst 1, 1) := by decide +kernel
theorem dX0_writeMissing_52 : decode cX0_writeMissing 52 = .ok (.ireturn, 1) := by decide +kernel
theorem dX0_hasValues_0 : decode cX0_hasValues 0 = .ok (.iconst 0, 1) := by decide +kernel
theorem dX0_hasValues_1 : decode cX0_hasValues 1 = .ok (.istore_n 2, 1) := by decide +kernel
theorem dX0_hasValues_2 : decode cX0_hasValues 2 = .ok (.iload_n 2, 1) := by decide +kernel
theorem dX0_hasValues_3 : decode cX0_hasValues 3 = .ok (.bipush 8, 2) := by decide +kernel
theorem dX0_hasValues_5 : decode cX0_hasValues 5 = .ok (.if_icmp .ge 29, 3) := by decide +kernel
theorem dX0_hasValues_8 : decode cX0_hasValues 8 = .ok (.iload_n 1, 1) := by decide +kernel
theorem dX0_hasValues_9 : decode cX0_hasValues 9 = .ok (.iload_n 2, 1) := by decide +kernel
theorem dX0_hasValues_10 : decode cX0_hasValues 10 = .ok (.invokestatic 56, 3) := by decide +kernel
theorem dX0_hasValues_13 : decode cX0_hasValues 13 = .ok (.ifCond .eq 15, 3) := by decide +kernel
theorem dX0_hasValues_16 : decode cX0_hasValues 16 = .ok (.aload_n 0, 1) := by decide +kernel
theorem dX0_hasValues_17 : decode cX0_hasValues 17 = .ok (.getfield 9, 3) := by decide +kernel
theorem dX0_hasValues_20 : decode cX0_hasValues 20 = .ok (.iload_n 2, 1) := by decide +kernel
theorem dX0_hasValues_21 : decode cX0_hasValues 21 = .ok (.iaload, 1) := by decide +kernel
theorem dX0_hasValues_22 : decode cX0_hasValues 22 = .ok (.iconst (-1), 1) := by decide +kernel
theorem dX0_hasValues_23 : decode cX0_hasValues 23 = .ok (.if_icmp .ne 5, 3) := by decide +kernel
theorem dX0_hasValues_26 : decode cX0_hasValues 26 = .ok (.iconst 0, 1) := by decide +kernel
theorem dX0_hasValues_27 : decode cX0_hasValues 27 = .ok (.ireturn, 1) := by decide +kernel
theorem dX0_hasValues_28 : decode cX0_hasValues 28 = .ok (.iinc 2 1, 3) := by decide +kernel
theorem dX0_hasValues_31 : decode cX0_hasValues 31 = .ok (.goto (-29), 3) := by decide +kernel
theorem dX0_hasValues_34 : decode cX0_hasValues 34 = .ok (.iconst 1, 1) := by decide +kernel
theorem dX0_hasValues_35 : decode cX0_hasValues 35 = .ok (.ireturn, 1) := by decide +kernel
theorem dX0_commitsOf_0 : decode cX0_commitsOf 0 = .ok (.lconst 0, 1) := by decide +kernel
theorem dX0_commitsOf_1 : decode cX0_commitsOf 1 = .ok (.lstore_n 2, 1) := by decide +kernel
theorem dX0_commitsOf_2 : decode cX0_commitsOf 2 = .ok (.iconst 0, 1) := by decide +kernel
theorem dX0_commitsOf_3 : decode cX0_commitsOf 3 = .ok (.istore 4, 2) := by decide +kernel
theorem dX0_commitsOf_5 : decode cX0_commitsOf 5 = .ok (.iload 4, 2) := by decide +kernel
theorem dX0_commitsOf_7 : decode cX0_commitsOf 7 = .ok (.bipush 8, 2) := by decide +kernel
theorem dX0_commitsOf_9 : decode cX0_commitsOf 9 = .ok (.if_icmp .ge 41, 3) := by decide +kernel
theorem dX0_commitsOf_12 : decode cX0_commitsOf 12 = .ok (.iload_n 1, 1) := by decide +kernel
theorem dX0_commitsOf_13 : decode cX0_commitsOf 13 = .ok (.iload 4, 2) := by decide +kernel
theorem dX0_commitsOf_15 : decode cX0_commitsOf 15 = .ok (.invokestatic 56, 3) := by decide +kernel
theorem dX0_commitsOf_18 : decode cX0_commitsOf 18 = .ok (.ifCond .eq 26, 3) := by decide +kernel
theorem dX0_commitsOf_21 : decode cX0_commitsOf 21 = .ok (.aload_n 0, 1) := by decide +kernel
theorem dX0_commitsOf_22 : decode cX0_commitsOf 22 = .ok (.getfield 9, 3) := by decide +kernel
theorem dX0_commitsOf_25 : decode cX0_commitsOf 25 = .ok (.iload 4, 2) := by decide +kernel
theorem dX0_commitsOf_27 : decode cX0_commitsOf 27 = .ok (.iaload, 1) := by decide +kernel
theorem dX0_commitsOf_28 : decode cX0_commitsOf 28 = .ok (.iconst (-1), 1) := by decide +kernel
theorem dX0_commitsOf_29 : decode cX0_commitsOf 29 = .ok (.if_icmp .eq 15, 3) := by decide +kernel
theorem dX0_commitsOf_32 : decode cX0_commitsOf 32 = .ok (.lload_n 2, 1) := by decide +kernel
theorem dX0_commitsOf_33 : decode cX0_commitsOf 33 = .ok (.lconst 1, 1) := by decide +kernel
theorem dX0_commitsOf_34 : decode cX0_commitsOf 34 = .ok (.aload_n 0, 1) := by decide +kernel
theorem dX0_commitsOf_35 : decode cX0_commitsOf 35 = .ok (.getfield 9, 3) := by decide +kernel
theorem dX0_commitsOf_38 : decode cX0_commitsOf 38 = .ok (.iload 4, 2) := by decide +kernel
theorem dX0_commitsOf_40 : decode cX0_commitsOf 40 = .ok (.iaload, 1) := by decide +kernel
theorem dX0_commitsOf_41 : decode cX0_commitsOf 41 = .ok (.lshl, 1) := by decide +kernel
theorem dX0_commitsOf_42 : decode cX0_commitsOf 42 = .ok (.lor, 1) := by decide +kernel
theorem dX0_commitsOf_43 : decode cX0_commitsOf 43 = .ok (.lstore_n 2, 1) := by decide +kernel
theorem dX0_commitsOf_44 : decode cX0_commitsOf 44 = .ok (.iinc 4 1, 3) := by decide +kernel
theorem dX0_commitsOf_47 : decode cX0_commitsOf 47 = .ok (.goto (-42), 3) := by decide +kernel
theorem dX0_commitsOf_50 : decode cX0_commitsOf 50 = .ok (.lload_n 2, 1) := by decide +kernel
theorem dX0_commitsOf_51 : decode cX0_commitsOf 51 = .ok (.lreturn, 1) := by decide +kernel
theorem dX0_emptyLog_0 : decode cX0_emptyLog 0 = .ok (.aload_n 0, 1) := by decide +kernel
theorem dX0_emptyLog_1 : decode cX0_emptyLog 1 = .ok (.invokevirtual 48, 3) := by decide +kernel
theorem dX0_emptyLog_4 : decode cX0_emptyLog 4 = .ok (.ifCond .ne 5, 3) := by decide +kernel
theorem dX0_emptyLog_7 : decode cX0_emptyLog 7 = .ok (.iconst 0, 1) := by decide +kernel
theorem dX0_emptyLog_8 : decode cX0_emptyLog 8 = .ok (.ireturn, 1) := by decide +kernel
theorem dX0_emptyLog_9 : decode cX0_emptyLog 9 = .ok (.iconst 0, 1) := by decide +kernel
theorem dX0_emptyLog_10 : decode cX0_emptyLog 10 = .ok (.istore_n 1, 1) := by decide +kernel
theorem dX0_emptyLog_11 : decode cX0_emptyLog 11 = .ok (.iload_n 1, 1) := by decide +kernel
theorem dX0_emptyLog_12 : decode cX0_emptyLog 12 = .ok (.bipush 8, 2) := by decide +kernel
theorem dX0_emptyLog_14 : decode cX0_emptyLog 14 = .ok (.if_icmp .ge 17, 3) := by decide +kernel
theorem dX0_emptyLog_17 : decode cX0_emptyLog 17 = .ok (.aload_n 0, 1) := by decide +kernel
theorem dX0_emptyLog_18 : decode cX0_emptyLog 18 = .ok (.getfield 15, 3) := by decide +kernel
theorem dX0_emptyLog_21 : decode cX0_emptyLog 21 = .ok (.iload_n 1, 1) := by decide +kernel
theorem dX0_emptyLog_22 : decode cX0_emptyLog 22 = .ok (.bipush (-2), 2) := by decide +kernel
theorem dX0_emptyLog_24 : decode cX0_emptyLog 24 = .ok (.iastore, 1) := by decide +kernel
theorem dX0_emptyLog_25 : decode cX0_emptyLog 25 = .ok (.iinc 1 1, 3) := by decide +kernel
theorem dX0_emptyLog_28 : decode cX0_emptyLog 28 = .ok (.goto (-17), 3) := by decide +kernel
theorem dX0_emptyLog_31 : decode cX0_emptyLog 31 = .ok (.aload_n 0, 1) := by decide +kernel
theorem dX0_emptyLog_32 : decode cX0_emptyLog 32 = .ok (.iconst 0, 1) := by decide +kernel
theorem dX0_emptyLog_33 : decode cX0_emptyLog 33 = .ok (.putfield 18, 3) := by decide +kernel
theorem dX0_emptyLog_36 : decode cX0_emptyLog 36 = .ok (.aload_n 0, 1) := by decide +kernel
theorem dX0_emptyLog_37 : decode cX0_emptyLog 37 = .ok (.iconst 0, 1) := by decide +kernel
theorem dX0_emptyLog_38 : decode cX0_emptyLog 38 = .ok (.putfield 22, 3) := by decide +kernel
theorem dX0_emptyLog_41 : decode cX0_emptyLog 41 = .ok (.iconst 1, 1) := by decide +kernel
theorem dX0_emptyLog_42 : decode cX0_emptyLog 42 = .ok (.ireturn, 1) := by decide +kernel
theorem dX0_carryOutLog_0 : decode cX0_carryOutLog 0 = .ok (.iconst 0, 1) := by decide +kernel
theorem dX0_carryOutLog_1 : decode cX0_carryOutLog 1 = .ok (.istore_n 1, 1) := by decide +kernel
theorem dX0_carryOutLog_2 : decode cX0_carryOutLog 2 = .ok (.iload_n 1, 1) := by decide +kernel
theorem dX0_carryOutLog_3 : decode cX0_carryOutLog 3 = .ok (.bipush 8, 2) := by decide +kernel
theorem dX0_carryOutLog_5 : decode cX0_carryOutLog 5 = .ok (.if_icmp .ge 41, 3) := by decide +kernel
theorem dX0_carryOutLog_8 : decode cX0_carryOutLog 8 = .ok (.aload_n 0, 1) := by decide +kernel
theorem dX0_carryOutLog_9 : decode cX0_carryOutLog 9 = .ok (.getfield 15, 3) := by decide +kernel
theorem dX0_carryOutLog_12 : decode cX0_carryOutLog 12 = .ok (.iload_n 1, 1) := by decide +kernel
theorem dX0_carryOutLog_13 : decode cX0_carryOutLog 13 = .ok (.iaload, 1) := by decide +kernel
theorem dX0_carryOutLog_14 : decode cX0_carryOutLog 14 = .ok (.bipush (-2), 2) := by decide +kernel
theorem dX0_carryOutLog_16 : decode cX0_carryOutLog 16 = .ok (.if_icmp .eq 24, 3) := by decide +kernel
theorem dX0_carryOutLog_19 : decode cX0_carryOutLog 19 = .ok (.aload_n 0, 1) := by decide +kernel
theorem dX0_carryOutLog_20 : decode cX0_carryOutLog 20 = .ok (.invokevirtual 48, 3) := by decide +kernel
theorem dX0_carryOutLog_23 : decode cX0_carryOutLog 23 = .ok (.ifCond .ne 5, 3) := by decide +kernel
theorem dX0_carryOutLog_26 : decode cX0_carryOutLog 26 = .ok (.iconst 0, 1) := by decide +kernel
theorem dX0_carryOutLog_27 : decode cX0_carryOutLog 27 = .ok (.ireturn, 1) := by decide +kernel
theorem dX0_carryOutLog_28 : decode cX0_carryOutLog 28 = .ok (.aload_n 0, 1) := by decide +kernel
theorem dX0_carryOutLog_29 : decode cX0_carryOutLog 29 = .ok (.getfield 9, 3) := by decide +kernel
theorem dX0_carryOutLog_32 : decode cX0_carryOutLog 32 = .ok (.iload_n 1, 1) := by decide +kernel
theorem dX0_carryOutLog_33 : decode cX0_carryOutLog 33 = .ok (.aload_n 0, 1) := by decide +kernel
theorem dX0_carryOutLog_34 : decode cX0_carryOutLog 34 = .ok (.getfield 15, 3) := by decide +kernel
theorem dX0_carryOutLog_37 : decode cX0_carryOutLog 37 = .ok (.iload_n 1, 1) := by decide +kernel
theorem dX0_carryOutLog_38 : decode cX0_carryOutLog 38 = .ok (.iaload, 1) := by decide +kernel
theorem dX0_carryOutLog_39 : decode cX0_carryOutLog 39 = .ok (.iastore, 1) := by decide +kernel
theorem dX0_carryOutLog_40 : decode cX0_carryOutLog 40 = .ok (.iinc 1 1, 3) := by decide +kernel
theorem dX0_carryOutLog_43 : decode cX0_carryOutLog 43 = .ok (.goto (-41), 3) := by decide +kernel
theorem dX0_carryOutLog_46 : decode cX0_carryOutLog 46 = .ok (.aload_n 0, 1) := by decide +kernel
theorem dX0_carryOutLog_47 : decode cX0_carryOutLog 47 = .ok (.invokevirtual 63, 3) := by decide +kernel
theorem dX0_carryOutLog_50 : decode cX0_carryOutLog 50 = .ok (.ireturn, 1) := by decide +kernel
theorem dX0_transact_0 : decode cX0_transact 0 = .ok (.iconst 0, 1) := by decide +kernel
theorem dX0_transact_1 : decode cX0_transact 1 = .ok (.istore_n 2, 1) := by decide +kernel
theorem dX0_transact_2 : decode cX0_transact 2 = .ok (.iload_n 2, 1) := by decide +kernel
theorem dX0_transact_3 : decode cX0_transact 3 = .ok (.bipush 8, 2) := by decide +kernel
theorem dX0_transact_5 : decode cX0_transact 5 = .ok (.if_icmp .ge 63, 3) := by decide +kernel
theorem dX0_transact_8 : decode cX0_transact 8 = .ok (.iload_n 2, 1) := by decide +kernel
theorem dX0_transact_9 : decode cX0_transact 9 = .ok (.aload_n 1, 1) := by decide +kernel
theorem dX0_transact_10 : decode cX0_transact 10 = .ok (.arraylength, 1) := by decide +kernel
theorem dX0_transact_11 : decode cX0_transact 11 = .ok (.if_icmp .ge 57, 3) := by decide +kernel
theorem dX0_transact_14 : decode cX0_transact 14 = .ok (.aload_n 1, 1) := by decide +kernel
theorem dX0_transact_15 : decode cX0_transact 15 = .ok (.iload_n 2, 1) := by decide +kernel
theorem dX0_transact_16 : decode cX0_transact 16 = .ok (.iaload, 1) := by decide +kernel
theorem dX0_transact_17 : decode cX0_transact 17 = .ok (.bipush (-2), 2) := by decide +kernel
theorem dX0_transact_19 : decode cX0_transact 19 = .ok (.if_icmp .eq 43, 3) := by decide +kernel
theorem dX0_transact_22 : decode cX0_transact 22 = .ok (.aload_n 1, 1) := by decide +kernel
theorem dX0_transact_23 : decode cX0_transact 23 = .ok (.iload_n 2, 1) := by decide +kernel
theorem dX0_transact_24 : decode cX0_transact 24 = .ok (.iaload, 1) := by decide +kernel
theorem dX0_transact_25 : decode cX0_transact 25 = .ok (.aload_n 0, 1) := by decide +kernel
theorem dX0_transact_26 : decode cX0_transact 26 = .ok (.getfield 9, 3) := by decide +kernel
theorem dX0_transact_29 : decode cX0_transact 29 = .ok (.iload_n 2, 1) := by decide +kernel
theorem dX0_transact_30 : decode cX0_transact 30 = .ok (.iaload, 1) := by decide +kernel
theorem dX0_transact_31 : decode cX0_transact 31 = .ok (.if_icmp .eq 31, 3) := by decide +kernel
theorem dX0_transact_34 : decode cX0_transact 34 = .ok (.aload_n 0, 1) := by decide +kernel
theorem dX0_transact_35 : decode cX0_transact 35 = .ok (.invokevirtual 48, 3) := by decide +kernel
theorem dX0_transact_38 : decode cX0_transact 38 = .ok (.ifCond .ne 5, 3) := by decide +kernel
theorem dX0_transact_41 : decode cX0_transact 41 = .ok (.iconst 0, 1) := by decide +kernel
theorem dX0_transact_42 : decode cX0_transact 42 = .ok (.ireturn, 1) := by decide +kernel
theorem dX0_transact_43 : decode cX0_transact 43 = .ok (.aload_n 0, 1) := by decide +kernel
theorem dX0_transact_44 : decode cX0_transact 44 = .ok (.getfield 15, 3) := by decide +kernel
theorem dX0_transact_47 : decode cX0_transact 47 = .ok (.iload_n 2, 1) := by decide +kernel
theorem dX0_transact_48 : decode cX0_transact 48 = .ok (.aload_n 1, 1) := by decide +kernel
theorem dX0_transact_49 : decode cX0_transact 49 = .ok (.iload_n 2, 1) := by decide +kernel
theorem dX0_transact_50 : decode cX0_transact 50 = .ok (.iaload, 1) := by decide +kernel
theorem dX0_transact_51 : decode cX0_transact 51 = .ok (.iastore, 1) := by decide +kernel
theorem dX0_transact_52 : decode cX0_transact 52 = .ok (.aload_n 0, 1) := by decide +kernel
theorem dX0_transact_53 : decode cX0_transact 53 = .ok (.dup, 1) := by decide +kernel
theorem dX0_transact_54 : decode cX0_transact 54 = .ok (.getfield 18, 3) := by decide +kernel
theorem dX0_transact_57 : decode cX0_transact 57 = .ok (.iconst 1, 1) := by decide +kernel
theorem dX0_transact_58 : decode cX0_transact 58 = .ok (.iadd, 1) := by decide +kernel
theorem dX0_transact_59 : decode cX0_transact 59 = .ok (.putfield 18, 3) := by decide +kernel
theorem dX0_transact_62 : decode cX0_transact 62 = .ok (.iinc 2 1, 3) := by decide +kernel
theorem dX0_transact_65 : decode cX0_transact 65 = .ok (.goto (-63), 3) := by decide +kernel
theorem dX0_transact_68 : decode cX0_transact 68 = .ok (.aload_n 0, 1) := by decide +kernel
theorem dX0_transact_69 : decode cX0_transact 69 = .ok (.getfield 18, 3) := by decide +kernel
theorem dX0_transact_72 : decode cX0_transact 72 = .ok (.ifCond .ne 5, 3) := by decide +kernel
theorem dX0_transact_75 : decode cX0_transact 75 = .ok (.iconst 1, 1) := by decide +kernel
theorem dX0_transact_76 : decode cX0_transact 76 = .ok (.ireturn, 1) := by decide +kernel
theorem dX0_transact_77 : decode cX0_transact 77 = .ok (.aload_n 0, 1) := by decide +kernel
theorem dX0_transact_78 : decode cX0_transact 78 = .ok (.invokevirtual 48, 3) := by decide +kernel
theorem dX0_transact_81 : decode cX0_transact 81 = .ok (.ifCond .ne 5, 3) := by decide +kernel
theorem dX0_transact_84 : decode cX0_transact 84 = .ok (.iconst 0, 1) := by decide +kernel
theorem dX0_transact_85 : decode cX0_transact 85 = .ok (.ireturn, 1) := by decide +kernel
theorem dX0_transact_86 : decode cX0_transact 86 = .ok (.aload_n 0, 1) := by decide +kernel
theorem dX0_transact_87 : decode cX0_transact 87 = .ok (.iconst 1, 1) := by decide +kernel
theorem dX0_transact_88 : decode cX0_transact 88 = .ok (.putfield 22, 3) := by decide +kernel
theorem dX0_transact_91 : decode cX0_transact 91 = .ok (.aload_n 0, 1) := by decide +kernel
theorem dX0_transact_92 : decode cX0_transact 92 = .ok (.invokevirtual 60, 3) := by decide +kernel
theorem dX0_transact_95 : decode cX0_transact 95 = .ok (.ireturn, 1) := by decide +kernel
theorem dX0_restore_0 : decode cX0_restore 0 = .ok (.aload_n 0, 1) := by decide +kernel
theorem dX0_restore_1 : decode cX0_restore 1 = .ok (.getfield 22, 3) := by decide +kernel
theorem dX0_restore_4 : decode cX0_restore 4 = .ok (.ifCond .eq 10, 3) := by decide +kernel
theorem dX0_restore_7 : decode cX0_restore 7 = .ok (.aload_n 0, 1) := by decide +kernel
theorem dX0_restore_8 : decode cX0_restore 8 = .ok (.getfield 18, 3) := by decide +kernel
theorem dX0_restore_11 : decode cX0_restore 11 = .ok (.goto 4, 3) := by decide +kernel
theorem dX0_restore_14 : decode cX0_restore 14 = .ok (.iconst 0, 1) := by decide +kernel
theorem dX0_restore_15 : decode cX0_restore 15 = .ok (.istore_n 1, 1) := by decide +kernel
theorem dX0_restore_16 : decode cX0_restore 16 = .ok (.aload_n 0, 1) := by decide +kernel
theorem dX0_restore_17 : decode cX0_restore 17 = .ok (.getfield 22, 3) := by decide +kernel
theorem dX0_restore_20 : decode cX0_restore 20 = .ok (.ifCond .eq 10, 3) := by decide +kernel
theorem dX0_restore_23 : decode cX0_restore 23 = .ok (.aload_n 0, 1) := by decide +kernel
theorem dX0_restore_24 : decode cX0_restore 24 = .ok (.invokevirtual 60, 3) := by decide +kernel
theorem dX0_restore_27 : decode cX0_restore 27 = .ok (.goto 22, 3) := by decide +kernel
theorem dX0_restore_30 : decode cX0_restore 30 = .ok (.aload_n 0, 1) := by decide +kernel
theorem dX0_restore_31 : decode cX0_restore 31 = .ok (.getfield 18, 3) := by decide +kernel
theorem dX0_restore_34 : decode cX0_restore 34 = .ok (.ifCond .eq 10, 3) := by decide +kernel
theorem dX0_restore_37 : decode cX0_restore 37 = .ok (.aload_n 0, 1) := by decide +kernel
theorem dX0_restore_38 : decode cX0_restore 38 = .ok (.invokevirtual 63, 3) := by decide +kernel
theorem dX0_restore_41 : decode cX0_restore 41 = .ok (.ifCond .eq 7, 3) := by decide +kernel
theorem dX0_restore_44 : decode cX0_restore 44 = .ok (.iconst 1, 1) := by decide +kernel
theorem dX0_restore_45 : decode cX0_restore 45 = .ok (.goto 4, 3) := by decide +kernel
theorem dX0_restore_48 : decode cX0_restore 48 = .ok (.iconst 0, 1) := by decide +kernel
theorem dX0_restore_49 : decode cX0_restore 49 = .ok (.istore_n 2, 1) := by decide +kernel
theorem dX0_restore_50 : decode cX0_restore 50 = .ok (.iload_n 2, 1) := by decide +kernel
theorem dX0_restore_51 : decode cX0_restore 51 = .ok (.ifCond .ne 6, 3) := by decide +kernel
theorem dX0_restore_54 : decode cX0_restore 54 = .ok (.bipush (-2), 2) := by decide +kernel
theorem dX0_restore_56 : decode cX0_restore 56 = .ok (.ireturn, 1) := by decide +kernel
theorem dX0_restore_57 : decode cX0_restore 57 = .ok (.aload_n 0, 1) := by decide +kernel
theorem dX0_restore_58 : decode cX0_restore 58 = .ok (.iconst 1, 1) := by decide +kernel
theorem dX0_restore_59 : decode cX0_restore 59 = .ok (.putfield 30, 3) := by decide +kernel
theorem dX0_restore_62 : decode cX0_restore 62 = .ok (.iload_n 1, 1) := by decide +kernel
theorem dX0_restore_63 : decode cX0_restore 63 = .ok (.ireturn, 1) := by decide +kernel
theorem dX2_isFull_0 : decode cX2_isFull 0 = .ok (.aload_n 0, 1) := by decide +kernel
theorem dX2_isFull_1 : decode cX2_isFull 1 = .ok (.getfield 28, 3) := by decide +kernel
theorem dX2_isFull_4 : decode cX2_isFull 4 = .ok (.bipush 60, 2) := by decide +kernel
theorem dX2_isFull_6 : decode cX2_isFull 6 = .ok (.if_icmp .lt 7, 3) := by decide +kernel
theorem dX2_isFull_9 : decode cX2_isFull 9 = .ok (.iconst 1, 1) := by decide +kernel
theorem dX2_isFull_10 : decode cX2_isFull 10 = .ok (.goto 4, 3) := by decide +kernel
theorem dX2_isFull_13 : decode cX2_isFull 13 = .ok (.iconst 0, 1) := by decide +kernel
theorem dX2_isFull_14 : decode cX2_isFull 14 = .ok (.ireturn, 1) := by decide +kernel
theorem dX2_isNumber_0 : decode cX2_isNumber 0 = .ok (.iload_n 1, 1) := by decide +kernel
theorem dX2_isNumber_1 : decode cX2_isNumber 1 = .ok (.ifCond .lt 15, 3) := by decide +kernel
theorem dX2_isNumber_4 : decode cX2_isNumber 4 = .ok (.iload_n 1, 1) := by decide +kernel
theorem dX2_isNumber_5 : decode cX2_isNumber 5 = .ok (.aload_n 0, 1) := by decide +kernel
theorem dX2_isNumber_6 : decode cX2_isNumber 6 = .ok (.getfield 28, 3) := by decide +kernel
theorem dX2_isNumber_9 : decode cX2_isNumber 9 = .ok (.if_icmp .ge 7, 3) := by decide +kernel
theorem dX2_isNumber_12 : decode cX2_isNumber 12 = .ok (.iconst 1, 1) := by decide +kernel
theorem dX2_isNumber_13 : decode cX2_isNumber 13 = .ok (.goto 4, 3) := by decide +kernel
theorem dX2_isNumber_16 : decode cX2_isNumber 16 = .ok (.iconst 0, 1) := by decide +kernel
theorem dX2_isNumber_17 : decode cX2_isNumber 17 = .ok (.ireturn, 1) := by decide +kernel
theorem dX2_isOfKind_0 : decode cX2_isOfKind 0 = .ok (.aload_n 0, 1) := by decide +kernel
theorem dX2_isOfKind_1 : decode cX2_isOfKind 1 = .ok (.iload_n 1, 1) := by decide +kernel
theorem dX2_isOfKind_2 : decode cX2_isOfKind 2 = .ok (.invokevirtual 32, 3) := by decide +kernel
theorem dX2_isOfKind_5 : decode cX2_isOfKind 5 = .ok (.ifCond .eq 17, 3) := by decide +kernel
theorem dX2_isOfKind_8 : decode cX2_isOfKind 8 = .ok (.aload_n 0, 1) := by decide +kernel
theorem dX2_isOfKind_9 : decode cX2_isOfKind 9 = .ok (.getfield 9, 3) := by decide +kernel
theorem dX2_isOfKind_12 : decode cX2_isOfKind 12 = .ok (.iload_n 1, 1) := by decide +kernel
theorem dX2_isOfKind_13 : decode cX2_isOfKind 13 = .ok (.iaload, 1) := by decide +kernel
theorem dX2_isOfKind_14 : decode cX2_isOfKind 14 = .ok (.iload_n 2, 1) := by decide +kernel
theorem dX2_isOfKind_15 : decode cX2_isOfKind 15 = .ok (.if_icmp .ne 7, 3) := by decide +kernel
theorem dX2_isOfKind_18 : decode cX2_isOfKind 18 = .ok (.iconst 1, 1) := by decide +kernel
theorem dX2_isOfKind_19 : decode cX2_isOfKind 19 = .ok (.goto 4, 3) := by decide +kernel
theorem dX2_isOfKind_22 : decode cX2_isOfKind 22 = .ok (.iconst 0, 1) := by decide +kernel
theorem dX2_isOfKind_23 : decode cX2_isOfKind 23 = .ok (.ireturn, 1) := by decide +kernel
theorem dX2_reachOf_0 : decode cX2_reachOf 0 = .ok (.aload_n 0, 1) := by decide +kernel
theorem dX2_reachOf_1 : decode cX2_reachOf 1 = .ok (.iload_n 1, 1) := by decide +kernel
theorem dX2_reachOf_2 : decode cX2_reachOf 2 = .ok (.invokevirtual 32, 3) := by decide +kernel
theorem dX2_reachOf_5 : decode cX2_reachOf 5 = .ok (.ifCond .eq 12, 3) := by decide +kernel
theorem dX2_reachOf_8 : decode cX2_reachOf 8 = .ok (.aload_n 0, 1) := by decide +kernel
theorem dX2_reachOf_9 : decode cX2_reachOf 9 = .ok (.getfield 24, 3) := by decide +kernel
theorem dX2_reachOf_12 : decode cX2_reachOf 12 = .ok (.iload_n 1, 1) := by decide +kernel
end
section
theorem dX2_reachOf_13 : decode cX2_reachOf 13 = .ok (.laload, 1) := by decide +kernel
theorem dX2_reachOf_14 : decode cX2_reachOf 14 = .ok (.goto 4, 3) := by decide +kernel
theorem dX2_reachOf_17 : decode cX2_reachOf 17 = .ok (.lconst 0, 1) := by decide +kernel
theorem dX2_reachOf_18 : decode cX2_reachOf 18 = .ok (.lreturn, 1) := by decide +kernel
theorem dX2_contentOf_0 : decode cX2_contentOf 0 = .ok (.aload_n 0, 1) := by decide +kernel
theorem dX2_contentOf_1 : decode cX2_contentOf 1 = .ok (.iload_n 1, 1) := by decide +kernel
theorem dX2_contentOf_2 : decode cX2_contentOf 2 = .ok (.invokevirtual 32, 3) := by decide +kernel
theorem dX2_contentOf_5 : decode cX2_contentOf 5 = .ok (.ifCond .eq 12, 3) := by decide +kernel
theorem dX2_contentOf_8 : decode cX2_contentOf 8 = .ok (.aload_n 0, 1) := by decide +kernel
theorem dX2_contentOf_9 : decode cX2_contentOf 9 = .ok (.getfield 15, 3) := by decide +kernel
theorem dX2_contentOf_12 : decode cX2_contentOf 12 = .ok (.iload_n 1, 1) := by decide +kernel
theorem dX2_contentOf_13 : decode cX2_contentOf 13 = .ok (.iaload, 1) := by decide +kernel
theorem dX2_contentOf_14 : decode cX2_contentOf 14 = .ok (.goto 4, 3) := by decide +kernel
theorem dX2_contentOf_17 : decode cX2_contentOf 17 = .ok (.iconst 0, 1) := by decide +kernel
theorem dX2_contentOf_18 : decode cX2_contentOf 18 = .ok (.ireturn, 1) := by decide +kernel
theorem dX2_partsOf_0 : decode cX2_partsOf 0 = .ok (.aload_n 0, 1) := by decide +kernel
theorem dX2_partsOf_1 : decode cX2_partsOf 1 = .ok (.iload_n 1, 1) := by decide +kernel
theorem dX2_partsOf_2 : decode cX2_partsOf 2 = .ok (.invokevirtual 32, 3) := by decide +kernel
theorem dX2_partsOf_5 : decode cX2_partsOf 5 = .ok (.ifCond .eq 12, 3) := by decide +kernel
theorem dX2_partsOf_8 : decode cX2_partsOf 8 = .ok (.aload_n 0, 1) := by decide +kernel
theorem dX2_partsOf_9 : decode cX2_partsOf 9 = .ok (.getfield 9, 3) := by decide +kernel
theorem dX2_partsOf_12 : decode cX2_partsOf 12 = .ok (.iload_n 1, 1) := by decide +kernel
theorem dX2_partsOf_13 : decode cX2_partsOf 13 = .ok (.iaload, 1) := by decide +kernel
theorem dX2_partsOf_14 : decode cX2_partsOf 14 = .ok (.ifCond .ne 5, 3) := by decide +kernel
theorem dX2_partsOf_17 : decode cX2_partsOf 17 = .ok (.iconst 0, 1) := by decide +kernel
theorem dX2_partsOf_18 : decode cX2_partsOf 18 = .ok (.ireturn, 1) := by decide +kernel
theorem dX2_partsOf_19 : decode cX2_partsOf 19 = .ok (.iconst 1, 1) := by decide +kernel
theorem dX2_partsOf_20 : decode cX2_partsOf 20 = .ok (.aload_n 0, 1) := by decide +kernel
theorem dX2_partsOf_21 : decode cX2_partsOf 21 = .ok (.getfield 18, 3) := by decide +kernel
theorem dX2_partsOf_24 : decode cX2_partsOf 24 = .ok (.iload_n 1, 1) := by decide +kernel
theorem dX2_partsOf_25 : decode cX2_partsOf 25 = .ok (.iaload, 1) := by decide +kernel
theorem dX2_partsOf_26 : decode cX2_partsOf 26 = .ok (.iconst (-1), 1) := by decide +kernel
theorem dX2_partsOf_27 : decode cX2_partsOf 27 = .ok (.if_icmp .ne 7, 3) := by decide +kernel
theorem dX2_partsOf_30 : decode cX2_partsOf 30 = .ok (.iconst 0, 1) := by decide +kernel
theorem dX2_partsOf_31 : decode cX2_partsOf 31 = .ok (.goto 4, 3) := by decide +kernel
theorem dX2_partsOf_34 : decode cX2_partsOf 34 = .ok (.iconst 1, 1) := by decide +kernel
theorem dX2_partsOf_35 : decode cX2_partsOf 35 = .ok (.iadd, 1) := by decide +kernel
theorem dX2_partsOf_36 : decode cX2_partsOf 36 = .ok (.aload_n 0, 1) := by decide +kernel
theorem dX2_partsOf_37 : decode cX2_partsOf 37 = .ok (.getfield 21, 3) := by decide +kernel
theorem dX2_partsOf_40 : decode cX2_partsOf 40 = .ok (.iload_n 1, 1) := by decide +kernel
theorem dX2_partsOf_41 : decode cX2_partsOf 41 = .ok (.iaload, 1) := by decide +kernel
theorem dX2_partsOf_42 : decode cX2_partsOf 42 = .ok (.iconst (-1), 1) := by decide +kernel
theorem dX2_partsOf_43 : decode cX2_partsOf 43 = .ok (.if_icmp .ne 7, 3) := by decide +kernel
theorem dX2_partsOf_46 : decode cX2_partsOf 46 = .ok (.iconst 0, 1) := by decide +kernel
theorem dX2_partsOf_47 : decode cX2_partsOf 47 = .ok (.goto 4, 3) := by decide +kernel
theorem dX2_partsOf_50 : decode cX2_partsOf 50 = .ok (.iconst 1, 1) := by decide +kernel
theorem dX2_partsOf_51 : decode cX2_partsOf 51 = .ok (.iadd, 1) := by decide +kernel
theorem dX2_partsOf_52 : decode cX2_partsOf 52 = .ok (.ireturn, 1) := by decide +kernel
theorem dX2_find_0 : decode cX2_find 0 = .ok (.iconst 0, 1) := by decide +kernel
theorem dX2_find_1 : decode cX2_find 1 = .ok (.istore 5, 2) := by decide +kernel
theorem dX2_find_3 : decode cX2_find 3 = .ok (.iload 5, 2) := by decide +kernel
theorem dX2_find_5 : decode cX2_find 5 = .ok (.aload_n 0, 1) := by decide +kernel
theorem dX2_find_6 : decode cX2_find 6 = .ok (.getfield 28, 3) := by decide +kernel
theorem dX2_find_9 : decode cX2_find 9 = .ok (.if_icmp .ge 57, 3) := by decide +kernel
theorem dX2_find_12 : decode cX2_find 12 = .ok (.aload_n 0, 1) := by decide +kernel
theorem dX2_find_13 : decode cX2_find 13 = .ok (.getfield 9, 3) := by decide +kernel
theorem dX2_find_16 : decode cX2_find 16 = .ok (.iload 5, 2) := by decide +kernel
theorem dX2_find_18 : decode cX2_find 18 = .ok (.iaload, 1) := by decide +kernel
theorem dX2_find_19 : decode cX2_find 19 = .ok (.iload_n 1, 1) := by decide +kernel
theorem dX2_find_20 : decode cX2_find 20 = .ok (.if_icmp .ne 40, 3) := by decide +kernel
theorem dX2_find_23 : decode cX2_find 23 = .ok (.aload_n 0, 1) := by decide +kernel
theorem dX2_find_24 : decode cX2_find 24 = .ok (.getfield 15, 3) := by decide +kernel
theorem dX2_find_27 : decode cX2_find 27 = .ok (.iload 5, 2) := by decide +kernel
theorem dX2_find_29 : decode cX2_find 29 = .ok (.iaload, 1) := by decide +kernel
theorem dX2_find_30 : decode cX2_find 30 = .ok (.iload_n 2, 1) := by decide +kernel
theorem dX2_find_31 : decode cX2_find 31 = .ok (.if_icmp .ne 29, 3) := by decide +kernel
theorem dX2_find_34 : decode cX2_find 34 = .ok (.aload_n 0, 1) := by decide +kernel
theorem dX2_find_35 : decode cX2_find 35 = .ok (.getfield 18, 3) := by decide +kernel
theorem dX2_find_38 : decode cX2_find 38 = .ok (.iload 5, 2) := by decide +kernel
theorem dX2_find_40 : decode cX2_find 40 = .ok (.iaload, 1) := by decide +kernel
theorem dX2_find_41 : decode cX2_find 41 = .ok (.iload_n 3, 1) := by decide +kernel
theorem dX2_find_42 : decode cX2_find 42 = .ok (.if_icmp .ne 18, 3) := by decide +kernel
theorem dX2_find_45 : decode cX2_find 45 = .ok (.aload_n 0, 1) := by decide +kernel
theorem dX2_find_46 : decode cX2_find 46 = .ok (.getfield 21, 3) := by decide +kernel
theorem dX2_find_49 : decode cX2_find 49 = .ok (.iload 5, 2) := by decide +kernel
theorem dX2_find_51 : decode cX2_find 51 = .ok (.iaload, 1) := by decide +kernel
theorem dX2_find_52 : decode cX2_find 52 = .ok (.iload 4, 2) := by decide +kernel
theorem dX2_find_54 : decode cX2_find 54 = .ok (.if_icmp .ne 6, 3) := by decide +kernel
theorem dX2_find_57 : decode cX2_find 57 = .ok (.iload 5, 2) := by decide +kernel
theorem dX2_find_59 : decode cX2_find 59 = .ok (.ireturn, 1) := by decide +kernel
theorem dX2_find_60 : decode cX2_find 60 = .ok (.iinc 5 1, 3) := by decide +kernel
theorem dX2_find_63 : decode cX2_find 63 = .ok (.goto (-60), 3) := by decide +kernel
theorem dX2_find_66 : decode cX2_find 66 = .ok (.iconst (-1), 1) := by decide +kernel
theorem dX2_find_67 : decode cX2_find 67 = .ok (.ireturn, 1) := by decide +kernel
theorem dX2_add_0 : decode cX2_add 0 = .ok (.aload_n 0, 1) := by decide +kernel
theorem dX2_add_1 : decode cX2_add 1 = .ok (.invokevirtual 36, 3) := by decide +kernel
theorem dX2_add_4 : decode cX2_add 4 = .ok (.ifCond .eq 5, 3) := by decide +kernel
theorem dX2_add_7 : decode cX2_add 7 = .ok (.iconst (-1), 1) := by decide +kernel
theorem dX2_add_8 : decode cX2_add 8 = .ok (.ireturn, 1) := by decide +kernel
theorem dX2_add_9 : decode cX2_add 9 = .ok (.aload_n 0, 1) := by decide +kernel
theorem dX2_add_10 : decode cX2_add 10 = .ok (.getfield 28, 3) := by decide +kernel
theorem dX2_add_13 : decode cX2_add 13 = .ok (.istore 5, 2) := by decide +kernel
theorem dX2_add_15 : decode cX2_add 15 = .ok (.lconst 1, 1) := by decide +kernel
theorem dX2_add_16 : decode cX2_add 16 = .ok (.iload 5, 2) := by decide +kernel
theorem dX2_add_18 : decode cX2_add 18 = .ok (.lshl, 1) := by decide +kernel
theorem dX2_add_19 : decode cX2_add 19 = .ok (.lstore 6, 2) := by decide +kernel
theorem dX2_add_21 : decode cX2_add 21 = .ok (.iload_n 1, 1) := by decide +kernel
theorem dX2_add_22 : decode cX2_add 22 = .ok (.ifCond .eq 26, 3) := by decide +kernel
theorem dX2_add_25 : decode cX2_add 25 = .ok (.lload 6, 2) := by decide +kernel
theorem dX2_add_27 : decode cX2_add 27 = .ok (.aload_n 0, 1) := by decide +kernel
theorem dX2_add_28 : decode cX2_add 28 = .ok (.iload_n 2, 1) := by decide +kernel
theorem dX2_add_29 : decode cX2_add 29 = .ok (.invokevirtual 40, 3) := by decide +kernel
theorem dX2_add_32 : decode cX2_add 32 = .ok (.lor, 1) := by decide +kernel
theorem dX2_add_33 : decode cX2_add 33 = .ok (.aload_n 0, 1) := by decide +kernel
theorem dX2_add_34 : decode cX2_add 34 = .ok (.iload_n 3, 1) := by decide +kernel
theorem dX2_add_35 : decode cX2_add 35 = .ok (.invokevirtual 40, 3) := by decide +kernel
theorem dX2_add_38 : decode cX2_add 38 = .ok (.lor, 1) := by decide +kernel
theorem dX2_add_39 : decode cX2_add 39 = .ok (.aload_n 0, 1) := by decide +kernel
theorem dX2_add_40 : decode cX2_add 40 = .ok (.iload 4, 2) := by decide +kernel
theorem dX2_add_42 : decode cX2_add 42 = .ok (.invokevirtual 40, 3) := by decide +kernel
theorem dX2_add_45 : decode cX2_add 45 = .ok (.lor, 1) := by decide +kernel
theorem dX2_add_46 : decode cX2_add 46 = .ok (.lstore 6, 2) := by decide +kernel
theorem dX2_add_48 : decode cX2_add 48 = .ok (.aload_n 0, 1) := by decide +kernel
theorem dX2_add_49 : decode cX2_add 49 = .ok (.getfield 9, 3) := by decide +kernel
theorem dX2_add_52 : decode cX2_add 52 = .ok (.iload 5, 2) := by decide +kernel
theorem dX2_add_54 : decode cX2_add 54 = .ok (.iload_n 1, 1) := by decide +kernel
theorem dX2_add_55 : decode cX2_add 55 = .ok (.iastore, 1) := by decide +kernel
theorem dX2_add_56 : decode cX2_add 56 = .ok (.aload_n 0, 1) := by decide +kernel
theorem dX2_add_57 : decode cX2_add 57 = .ok (.getfield 15, 3) := by decide +kernel
theorem dX2_add_60 : decode cX2_add 60 = .ok (.iload 5, 2) := by decide +kernel
theorem dX2_add_62 : decode cX2_add 62 = .ok (.iload_n 2, 1) := by decide +kernel
theorem dX2_add_63 : decode cX2_add 63 = .ok (.iastore, 1) := by decide +kernel
theorem dX2_add_64 : decode cX2_add 64 = .ok (.aload_n 0, 1) := by decide +kernel
theorem dX2_add_65 : decode cX2_add 65 = .ok (.getfield 18, 3) := by decide +kernel
theorem dX2_add_68 : decode cX2_add 68 = .ok (.iload 5, 2) := by decide +kernel
theorem dX2_add_70 : decode cX2_add 70 = .ok (.iload_n 3, 1) := by decide +kernel
theorem dX2_add_71 : decode cX2_add 71 = .ok (.iastore, 1) := by decide +kernel
theorem dX2_add_72 : decode cX2_add 72 = .ok (.aload_n 0, 1) := by decide +kernel
theorem dX2_add_73 : decode cX2_add 73 = .ok (.getfield 21, 3) := by decide +kernel
theorem dX2_add_76 : decode cX2_add 76 = .ok (.iload 5, 2) := by decide +kernel
theorem dX2_add_78 : decode cX2_add 78 = .ok (.iload 4, 2) := by decide +kernel
theorem dX2_add_80 : decode cX2_add 80 = .ok (.iastore, 1) := by decide +kernel
theorem dX2_add_81 : decode cX2_add 81 = .ok (.aload_n 0, 1) := by decide +kernel
theorem dX2_add_82 : decode cX2_add 82 = .ok (.getfield 24, 3) := by decide +kernel
theorem dX2_add_85 : decode cX2_add 85 = .ok (.iload 5, 2) := by decide +kernel
theorem dX2_add_87 : decode cX2_add 87 = .ok (.lload 6, 2) := by decide +kernel
theorem dX2_add_89 : decode cX2_add 89 = .ok (.lastore, 1) := by decide +kernel
theorem dX2_add_90 : decode cX2_add 90 = .ok (.aload_n 0, 1) := by decide +kernel
theorem dX2_add_91 : decode cX2_add 91 = .ok (.iload 5, 2) := by decide +kernel
theorem dX2_add_93 : decode cX2_add 93 = .ok (.iconst 1, 1) := by decide +kernel
theorem dX2_add_94 : decode cX2_add 94 = .ok (.iadd, 1) := by decide +kernel
theorem dX2_add_95 : decode cX2_add 95 = .ok (.putfield 28, 3) := by decide +kernel
theorem dX2_add_98 : decode cX2_add 98 = .ok (.iload 5, 2) := by decide +kernel
theorem dX2_add_100 : decode cX2_add 100 = .ok (.ireturn, 1) := by decide +kernel
theorem dX2_reachOfAll_0 : decode cX2_reachOfAll 0 = .ok (.lconst 0, 1) := by decide +kernel
theorem dX2_reachOfAll_1 : decode cX2_reachOfAll 1 = .ok (.lstore_n 3, 1) := by decide +kernel
theorem dX2_reachOfAll_2 : decode cX2_reachOfAll 2 = .ok (.iconst 0, 1) := by decide +kernel
theorem dX2_reachOfAll_3 : decode cX2_reachOfAll 3 = .ok (.istore 5, 2) := by decide +kernel
theorem dX2_reachOfAll_5 : decode cX2_reachOfAll 5 = .ok (.iload 5, 2) := by decide +kernel
theorem dX2_reachOfAll_7 : decode cX2_reachOfAll 7 = .ok (.aload_n 0, 1) := by decide +kernel
theorem dX2_reachOfAll_8 : decode cX2_reachOfAll 8 = .ok (.getfield 28, 3) := by decide +kernel
theorem dX2_reachOfAll_11 : decode cX2_reachOfAll 11 = .ok (.if_icmp .ge 28, 3) := by decide +kernel
theorem dX2_reachOfAll_14 : decode cX2_reachOfAll 14 = .ok (.lload_n 1, 1) := by decide +kernel
theorem dX2_reachOfAll_15 : decode cX2_reachOfAll 15 = .ok (.iload 5, 2) := by decide +kernel
theorem dX2_reachOfAll_17 : decode cX2_reachOfAll 17 = .ok (.invokestatic 44, 3) := by decide +kernel
theorem dX2_reachOfAll_20 : decode cX2_reachOfAll 20 = .ok (.ifCond .eq 13, 3) := by decide +kernel
theorem dX2_reachOfAll_23 : decode cX2_reachOfAll 23 = .ok (.lload_n 3, 1) := by decide +kernel
theorem dX2_reachOfAll_24 : decode cX2_reachOfAll 24 = .ok (.aload_n 0, 1) := by decide +kernel
theorem dX2_reachOfAll_25 : decode cX2_reachOfAll 25 = .ok (.getfield 24, 3) := by decide +kernel
theorem dX2_reachOfAll_28 : decode cX2_reachOfAll 28 = .ok (.iload 5, 2) := by decide +kernel
theorem dX2_reachOfAll_30 : decode cX2_reachOfAll 30 = .ok (.laload, 1) := by decide +kernel
theorem dX2_reachOfAll_31 : decode cX2_reachOfAll 31 = .ok (.lor, 1) := by decide +kernel
theorem dX2_reachOfAll_32 : decode cX2_reachOfAll 32 = .ok (.lstore_n 3, 1) := by decide +kernel
theorem dX2_reachOfAll_33 : decode cX2_reachOfAll 33 = .ok (.iinc 5 1, 3) := by decide +kernel
theorem dX2_reachOfAll_36 : decode cX2_reachOfAll 36 = .ok (.goto (-31), 3) := by decide +kernel
theorem dX2_reachOfAll_39 : decode cX2_reachOfAll 39 = .ok (.lload_n 3, 1) := by decide +kernel
theorem dX2_reachOfAll_40 : decode cX2_reachOfAll 40 = .ok (.lreturn, 1) := by decide +kernel
theorem dX2_eachReachesOne_0 : decode cX2_eachReachesOne 0 = .ok (.iconst 0, 1) := by decide +kernel
theorem dX2_eachReachesOne_1 : decode cX2_eachReachesOne 1 = .ok (.istore 5, 2) := by decide +kernel
theorem dX2_eachReachesOne_3 : decode cX2_eachReachesOne 3 = .ok (.iload 5, 2) := by decide +kernel
theorem dX2_eachReachesOne_5 : decode cX2_eachReachesOne 5 = .ok (.aload_n 0, 1) := by decide +kernel
theorem dX2_eachReachesOne_6 : decode cX2_eachReachesOne 6 = .ok (.getfield 28, 3) := by decide +kernel
theorem dX2_eachReachesOne_9 : decode cX2_eachReachesOne 9 = .ok (.if_icmp .ge 34, 3) := by decide +kernel
theorem dX2_eachReachesOne_12 : decode cX2_eachReachesOne 12 = .ok (.lload_n 1, 1) := by decide +kernel
theorem dX2_eachReachesOne_13 : decode cX2_eachReachesOne 13 = .ok (.iload 5, 2) := by decide +kernel
theorem dX2_eachReachesOne_15 : decode cX2_eachReachesOne 15 = .ok (.invokestatic 44, 3) := by decide +kernel
theorem dX2_eachReachesOne_18 : decode cX2_eachReachesOne 18 = .ok (.ifCond .eq 19, 3) := by decide +kernel
theorem dX2_eachReachesOne_21 : decode cX2_eachReachesOne 21 = .ok (.aload_n 0, 1) := by decide +kernel
theorem dX2_eachReachesOne_22 : decode cX2_eachReachesOne 22 = .ok (.getfield 24, 3) := by decide +kernel
theorem dX2_eachReachesOne_25 : decode cX2_eachReachesOne 25 = .ok (.iload 5, 2) := by decide +kernel
theorem dX2_eachReachesOne_27 : decode cX2_eachReachesOne 27 = .ok (.laload, 1) := by decide +kernel
theorem dX2_eachReachesOne_28 : decode cX2_eachReachesOne 28 = .ok (.lload_n 3, 1) := by decide +kernel
theorem dX2_eachReachesOne_29 : decode cX2_eachReachesOne 29 = .ok (.land, 1) := by decide +kernel
theorem dX2_eachReachesOne_30 : decode cX2_eachReachesOne 30 = .ok (.lconst 0, 1) := by decide +kernel
theorem dX2_eachReachesOne_31 : decode cX2_eachReachesOne 31 = .ok (.lcmp, 1) := by decide +kernel
theorem dX2_eachReachesOne_32 : decode cX2_eachReachesOne 32 = .ok (.ifCond .ne 5, 3) := by decide +kernel
theorem dX2_eachReachesOne_35 : decode cX2_eachReachesOne 35 = .ok (.iconst 0, 1) := by decide +kernel
theorem dX2_eachReachesOne_36 : decode cX2_eachReachesOne 36 = .ok (.ireturn, 1) := by decide +kernel
theorem dX2_eachReachesOne_37 : decode cX2_eachReachesOne 37 = .ok (.iinc 5 1, 3) := by decide +kernel
theorem dX2_eachReachesOne_40 : decode cX2_eachReachesOne 40 = .ok (.goto (-37), 3) := by decide +kernel
theorem dX2_eachReachesOne_43 : decode cX2_eachReachesOne 43 = .ok (.iconst 1, 1) := by decide +kernel
theorem dX2_eachReachesOne_44 : decode cX2_eachReachesOne 44 = .ok (.ireturn, 1) := by decide +kernel
theorem dX2_allOfKind_0 : decode cX2_allOfKind 0 = .ok (.lconst 0, 1) := by decide +kernel
theorem dX2_allOfKind_1 : decode cX2_allOfKind 1 = .ok (.lstore_n 2, 1) := by decide +kernel
theorem dX2_allOfKind_2 : decode cX2_allOfKind 2 = .ok (.iconst 0, 1) := by decide +kernel
theorem dX2_allOfKind_3 : decode cX2_allOfKind 3 = .ok (.istore 4, 2) := by decide +kernel
theorem dX2_allOfKind_5 : decode cX2_allOfKind 5 = .ok (.iload 4, 2) := by decide +kernel
theorem dX2_allOfKind_7 : decode cX2_allOfKind 7 = .ok (.aload_n 0, 1) := by decide +kernel
theorem dX2_allOfKind_8 : decode cX2_allOfKind 8 = .ok (.getfield 28, 3) := by decide +kernel
theorem dX2_allOfKind_11 : decode cX2_allOfKind 11 = .ok (.if_icmp .ge 27, 3) := by decide +kernel
theorem dX2_allOfKind_14 : decode cX2_allOfKind 14 = .ok (.aload_n 0, 1) := by decide +kernel
theorem dX2_allOfKind_15 : decode cX2_allOfKind 15 = .ok (.getfield 9, 3) := by decide +kernel
theorem dX2_allOfKind_18 : decode cX2_allOfKind 18 = .ok (.iload 4, 2) := by decide +kernel
theorem dX2_allOfKind_20 : decode cX2_allOfKind 20 = .ok (.iaload, 1) := by decide +kernel
theorem dX2_allOfKind_21 : decode cX2_allOfKind 21 = .ok (.iload_n 1, 1) := by decide +kernel
theorem dX2_allOfKind_22 : decode cX2_allOfKind 22 = .ok (.if_icmp .ne 10, 3) := by decide +kernel
theorem dX2_allOfKind_25 : decode cX2_allOfKind 25 = .ok (.lload_n 2, 1) := by decide +kernel
theorem dX2_allOfKind_26 : decode cX2_allOfKind 26 = .ok (.lconst 1, 1) := by decide +kernel
theorem dX2_allOfKind_27 : decode cX2_allOfKind 27 = .ok (.iload 4, 2) := by decide +kernel
theorem dX2_allOfKind_29 : decode cX2_allOfKind 29 = .ok (.lshl, 1) := by decide +kernel
theorem dX2_allOfKind_30 : decode cX2_allOfKind 30 = .ok (.lor, 1) := by decide +kernel
theorem dX2_allOfKind_31 : decode cX2_allOfKind 31 = .ok (.lstore_n 2, 1) := by decide +kernel
theorem dX2_allOfKind_32 : decode cX2_allOfKind 32 = .ok (.iinc 4 1, 3) := by decide +kernel
theorem dX2_allOfKind_35 : decode cX2_allOfKind 35 = .ok (.goto (-30), 3) := by decide +kernel
theorem dX2_allOfKind_38 : decode cX2_allOfKind 38 = .ok (.lload_n 2, 1) := by decide +kernel
theorem dX2_allOfKind_39 : decode cX2_allOfKind 39 = .ok (.lreturn, 1) := by decide +kernel
theorem dX3_highest_0 : decode cX3_highest 0 = .ok (.lconst 0, 1) := by decide +kernel
theorem dX3_highest_1 : decode cX3_highest 1 = .ok (.lstore_n 2, 1) := by decide +kernel
theorem dX3_highest_2 : decode cX3_highest 2 = .ok (.iconst 0, 1) := by decide +kernel
theorem dX3_highest_3 : decode cX3_highest 3 = .ok (.istore 4, 2) := by decide +kernel
theorem dX3_highest_5 : decode cX3_highest 5 = .ok (.bipush 59, 2) := by decide +kernel
theorem dX3_highest_7 : decode cX3_highest 7 = .ok (.istore 5, 2) := by decide +kernel
theorem dX3_highest_9 : decode cX3_highest 9 = .ok (.iload 5, 2) := by decide +kernel
theorem dX3_highest_11 : decode cX3_highest 11 = .ok (.ifCond .lt 34, 3) := by decide +kernel
theorem dX3_highest_14 : decode cX3_highest 14 = .ok (.iload 4, 2) := by decide +kernel
theorem dX3_highest_16 : decode cX3_highest 16 = .ok (.iconst 3, 1) := by decide +kernel
theorem dX3_highest_17 : decode cX3_highest 17 = .ok (.if_icmp .ge 28, 3) := by decide +kernel
theorem dX3_highest_20 : decode cX3_highest 20 = .ok (.lload_n 0, 1) := by decide +kernel
theorem dX3_highest_21 : decode cX3_highest 21 = .ok (.iload 5, 2) := by decide +kernel
theorem dX3_highest_23 : decode cX3_highest 23 = .ok (.invokestatic 42, 3) := by decide +kernel
theorem dX3_highest_26 : decode cX3_highest 26 = .ok (.ifCond .eq 13, 3) := by decide +kernel
theorem dX3_highest_29 : decode cX3_highest 29 = .ok (.lload_n 2, 1) := by decide +kernel
theorem dX3_highest_30 : decode cX3_highest 30 = .ok (.lconst 1, 1) := by decide +kernel
theorem dX3_highest_31 : decode cX3_highest 31 = .ok (.iload 5, 2) := by decide +kernel
theorem dX3_highest_33 : decode cX3_highest 33 = .ok (.lshl, 1) := by decide +kernel
theorem dX3_highest_34 : decode cX3_highest 34 = .ok (.lor, 1) := by decide +kernel
theorem dX3_highest_35 : decode cX3_highest 35 = .ok (.lstore_n 2, 1) := by decide +kernel
theorem dX3_highest_36 : decode cX3_highest 36 = .ok (.iinc 4 1, 3) := by decide +kernel
theorem dX3_highest_39 : decode cX3_highest 39 = .ok (.iinc 5 (-1), 3) := by decide +kernel
theorem dX3_highest_42 : decode cX3_highest 42 = .ok (.goto (-33), 3) := by decide +kernel
theorem dX3_highest_45 : decode cX3_highest 45 = .ok (.lload_n 2, 1) := by decide +kernel
theorem dX3_highest_46 : decode cX3_highest 46 = .ok (.lreturn, 1) := by decide +kernel
theorem dX3_havesSent_0 : decode cX3_havesSent 0 = .ok (.aload_n 0, 1) := by decide +kernel
theorem dX3_havesSent_1 : decode cX3_havesSent 1 = .ok (.getfield 9, 3) := by decide +kernel
theorem dX3_havesSent_4 : decode cX3_havesSent 4 = .ok (.ireturn, 1) := by decide +kernel
theorem dX3_havesAcknowledged_0 : decode cX3_havesAcknowledged 0 = .ok (.aload_n 0, 1) := by decide +kernel
theorem dX3_havesAcknowledged_1 : decode cX3_havesAcknowledged 1 = .ok (.getfield 15, 3) := by decide +kernel
theorem dX3_havesAcknowledged_4 : decode cX3_havesAcknowledged 4 = .ok (.ireturn, 1) := by decide +kernel
theorem dX3_roundsHeld_0 : decode cX3_roundsHeld 0 = .ok (.aload_n 0, 1) := by decide +kernel
theorem dX3_roundsHeld_1 : decode cX3_roundsHeld 1 = .ok (.getfield 18, 3) := by decide +kernel
theorem dX3_roundsHeld_4 : decode cX3_roundsHeld 4 = .ok (.ireturn, 1) := by decide +kernel
theorem dX3_run_0 : decode cX3_run 0 = .ok (.lconst 0, 1) := by decide +kernel
theorem dX3_run_1 : decode cX3_run 1 = .ok (.lstore 8, 2) := by decide +kernel
theorem dX3_run_3 : decode cX3_run 3 = .ok (.lload 4, 2) := by decide +kernel
theorem dX3_run_5 : decode cX3_run 5 = .ok (.lstore 10, 2) := by decide +kernel
theorem dX3_run_7 : decode cX3_run 7 = .ok (.aload_n 0, 1) := by decide +kernel
theorem dX3_run_8 : decode cX3_run 8 = .ok (.iconst 0, 1) := by decide +kernel
theorem dX3_run_9 : decode cX3_run 9 = .ok (.putfield 9, 3) := by decide +kernel
theorem dX3_run_12 : decode cX3_run 12 = .ok (.aload_n 0, 1) := by decide +kernel
theorem dX3_run_13 : decode cX3_run 13 = .ok (.iconst 0, 1) := by decide +kernel
theorem dX3_run_14 : decode cX3_run 14 = .ok (.putfield 18, 3) := by decide +kernel
theorem dX3_run_17 : decode cX3_run 17 = .ok (.aload_n 0, 1) := by decide +kernel
theorem dX3_run_18 : decode cX3_run 18 = .ok (.getfield 18, 3) := by decide +kernel
theorem dX3_run_21 : decode cX3_run 21 = .ok (.bipush 60, 2) := by decide +kernel
theorem dX3_run_23 : decode cX3_run 23 = .ok (.if_icmp .ge 82, 3) := by decide +kernel
theorem dX3_run_26 : decode cX3_run 26 = .ok (.lload 10, 2) := by decide +kernel
theorem dX3_run_28 : decode cX3_run 28 = .ok (.lconst 0, 1) := by decide +kernel
theorem dX3_run_29 : decode cX3_run 29 = .ok (.lcmp, 1) := by decide +kernel
theorem dX3_run_30 : decode cX3_run 30 = .ok (.ifCond .eq 75, 3) := by decide +kernel
theorem dX3_run_33 : decode cX3_run 33 = .ok (.aload_n 1, 1) := by decide +kernel
theorem dX3_run_34 : decode cX3_run 34 = .ok (.lload_n 2, 1) := by decide +kernel
theorem dX3_run_35 : decode cX3_run 35 = .ok (.lload 8, 2) := by decide +kernel
theorem dX3_run_37 : decode cX3_run 37 = .ok (.invokevirtual 21, 3) := by decide +kernel
theorem dX3_run_40 : decode cX3_run 40 = .ok (.ifCond .ne 65, 3) := by decide +kernel
theorem dX3_run_43 : decode cX3_run 43 = .ok (.lload 10, 2) := by decide +kernel
theorem dX3_run_45 : decode cX3_run 45 = .ok (.invokestatic 27, 3) := by decide +kernel
theorem dX3_run_48 : decode cX3_run 48 = .ok (.lstore 12, 2) := by decide +kernel
theorem dX3_run_50 : decode cX3_run 50 = .ok (.aload_n 0, 1) := by decide +kernel
theorem dX3_run_51 : decode cX3_run 51 = .ok (.dup, 1) := by decide +kernel
theorem dX3_run_52 : decode cX3_run 52 = .ok (.getfield 9, 3) := by decide +kernel
theorem dX3_run_55 : decode cX3_run 55 = .ok (.lload 12, 2) := by decide +kernel
theorem dX3_run_57 : decode cX3_run 57 = .ok (.invokestatic 31, 3) := by decide +kernel
theorem dX3_run_60 : decode cX3_run 60 = .ok (.iadd, 1) := by decide +kernel
theorem dX3_run_61 : decode cX3_run 61 = .ok (.putfield 9, 3) := by decide +kernel
theorem dX3_run_64 : decode cX3_run 64 = .ok (.lload 8, 2) := by decide +kernel
theorem dX3_run_66 : decode cX3_run 66 = .ok (.lload 12, 2) := by decide +kernel
theorem dX3_run_68 : decode cX3_run 68 = .ok (.lload 6, 2) := by decide +kernel
theorem dX3_run_70 : decode cX3_run 70 = .ok (.land, 1) := by decide +kernel
theorem dX3_run_71 : decode cX3_run 71 = .ok (.lor, 1) := by decide +kernel
theorem dX3_run_72 : decode cX3_run 72 = .ok (.lstore 8, 2) := by decide +kernel
theorem dX3_run_74 : decode cX3_run 74 = .ok (.lload 10, 2) := by decide +kernel
theorem dX3_run_76 : decode cX3_run 76 = .ok (.lload 12, 2) := by decide +kernel
theorem dX3_run_78 : decode cX3_run 78 = .ok (.aload_n 1, 1) := by decide +kernel
theorem dX3_run_79 : decode cX3_run 79 = .ok (.lload 8, 2) := by decide +kernel
theorem dX3_run_81 : decode cX3_run 81 = .ok (.invokevirtual 37, 3) := by decide +kernel
theorem dX3_run_84 : decode cX3_run 84 = .ok (.lor, 1) := by decide +kernel
theorem dX3_run_85 : decode cX3_run 85 = .ok (.ldc2_w 40, 3) := by decide +kernel
theorem dX3_run_88 : decode cX3_run 88 = .ok (.lxor, 1) := by decide +kernel
theorem dX3_run_89 : decode cX3_run 89 = .ok (.land, 1) := by decide +kernel
theorem dX3_run_90 : decode cX3_run 90 = .ok (.lstore 10, 2) := by decide +kernel
theorem dX3_run_92 : decode cX3_run 92 = .ok (.aload_n 0, 1) := by decide +kernel
theorem dX3_run_93 : decode cX3_run 93 = .ok (.dup, 1) := by decide +kernel
theorem dX3_run_94 : decode cX3_run 94 = .ok (.getfield 18, 3) := by decide +kernel
theorem dX3_run_97 : decode cX3_run 97 = .ok (.iconst 1, 1) := by decide +kernel
theorem dX3_run_98 : decode cX3_run 98 = .ok (.iadd, 1) := by decide +kernel
theorem dX3_run_99 : decode cX3_run 99 = .ok (.putfield 18, 3) := by decide +kernel
theorem dX3_run_102 : decode cX3_run 102 = .ok (.goto (-85), 3) := by decide +kernel
theorem dX3_run_105 : decode cX3_run 105 = .ok (.aload_n 0, 1) := by decide +kernel
theorem dX3_run_106 : decode cX3_run 106 = .ok (.lload 8, 2) := by decide +kernel
theorem dX3_run_108 : decode cX3_run 108 = .ok (.invokestatic 31, 3) := by decide +kernel
theorem dX3_run_111 : decode cX3_run 111 = .ok (.putfield 15, 3) := by decide +kernel
theorem dX3_run_114 : decode cX3_run 114 = .ok (.lload 8, 2) := by decide +kernel
theorem dX3_run_116 : decode cX3_run 116 = .ok (.lreturn, 1) := by decide +kernel
theorem dX1_memberSet_0 : decode cX1_memberSet 0 = .ok (.aload_n 0, 1) := by decide +kernel
theorem dX1_memberSet_1 : decode cX1_memberSet 1 = .ok (.getfield 21, 3) := by decide +kernel
theorem dX1_memberSet_4 : decode cX1_memberSet 4 = .ok (.lreturn, 1) := by decide +kernel
theorem dX1_length_0 : decode cX1_length 0 = .ok (.aload_n 0, 1) := by decide +kernel
theorem dX1_length_1 : decode cX1_length 1 = .ok (.getfield 25, 3) := by decide +kernel
theorem dX1_length_4 : decode cX1_length 4 = .ok (.ireturn, 1) := by decide +kernel
theorem dX1_totalWeight_0 : decode cX1_totalWeight 0 = .ok (.aload_n 0, 1) := by decide +kernel
theorem dX1_totalWeight_1 : decode cX1_totalWeight 1 = .ok (.getfield 29, 3) := by decide +kernel
theorem dX1_totalWeight_4 : decode cX1_totalWeight 4 = .ok (.ireturn, 1) := by decide +kernel
theorem dX1_isPlace_0 : decode cX1_isPlace 0 = .ok (.iload_n 1, 1) := by decide +kernel
theorem dX1_isPlace_1 : decode cX1_isPlace 1 = .ok (.ifCond .lt 15, 3) := by decide +kernel
theorem dX1_isPlace_4 : decode cX1_isPlace 4 = .ok (.iload_n 1, 1) := by decide +kernel
theorem dX1_isPlace_5 : decode cX1_isPlace 5 = .ok (.aload_n 0, 1) := by decide +kernel
theorem dX1_isPlace_6 : decode cX1_isPlace 6 = .ok (.getfield 25, 3) := by decide +kernel
theorem dX1_isPlace_9 : decode cX1_isPlace 9 = .ok (.if_icmp .ge 7, 3) := by decide +kernel
theorem dX1_isPlace_12 : decode cX1_isPlace 12 = .ok (.iconst 1, 1) := by decide +kernel
theorem dX1_isPlace_13 : decode cX1_isPlace 13 = .ok (.goto 4, 3) := by decide +kernel
theorem dX1_isPlace_16 : decode cX1_isPlace 16 = .ok (.iconst 0, 1) := by decide +kernel
theorem dX1_isPlace_17 : decode cX1_isPlace 17 = .ok (.ireturn, 1) := by decide +kernel
theorem dX1_objectAt_0 : decode cX1_objectAt 0 = .ok (.aload_n 0, 1) := by decide +kernel
theorem dX1_objectAt_1 : decode cX1_objectAt 1 = .ok (.iload_n 1, 1) := by decide +kernel
theorem dX1_objectAt_2 : decode cX1_objectAt 2 = .ok (.invokevirtual 36, 3) := by decide +kernel
theorem dX1_objectAt_5 : decode cX1_objectAt 5 = .ok (.ifCond .eq 12, 3) := by decide +kernel
theorem dX1_objectAt_8 : decode cX1_objectAt 8 = .ok (.aload_n 0, 1) := by decide +kernel
theorem dX1_objectAt_9 : decode cX1_objectAt 9 = .ok (.getfield 9, 3) := by decide +kernel
theorem dX1_objectAt_12 : decode cX1_objectAt 12 = .ok (.iload_n 1, 1) := by decide +kernel
theorem dX1_objectAt_13 : decode cX1_objectAt 13 = .ok (.iaload, 1) := by decide +kernel
theorem dX1_objectAt_14 : decode cX1_objectAt 14 = .ok (.goto 5, 3) := by decide +kernel
theorem dX1_objectAt_17 : decode cX1_objectAt 17 = .ok (.bipush (-4), 2) := by decide +kernel
theorem dX1_objectAt_19 : decode cX1_objectAt 19 = .ok (.ireturn, 1) := by decide +kernel
theorem dX1_baseAt_0 : decode cX1_baseAt 0 = .ok (.aload_n 0, 1) := by decide +kernel
theorem dX1_baseAt_1 : decode cX1_baseAt 1 = .ok (.iload_n 1, 1) := by decide +kernel
theorem dX1_baseAt_2 : decode cX1_baseAt 2 = .ok (.invokevirtual 36, 3) := by decide +kernel
theorem dX1_baseAt_5 : decode cX1_baseAt 5 = .ok (.ifCond .eq 12, 3) := by decide +kernel
theorem dX1_baseAt_8 : decode cX1_baseAt 8 = .ok (.aload_n 0, 1) := by decide +kernel
theorem dX1_baseAt_9 : decode cX1_baseAt 9 = .ok (.getfield 15, 3) := by decide +kernel
theorem dX1_baseAt_12 : decode cX1_baseAt 12 = .ok (.iload_n 1, 1) := by decide +kernel
theorem dX1_baseAt_13 : decode cX1_baseAt 13 = .ok (.iaload, 1) := by decide +kernel
theorem dX1_baseAt_14 : decode cX1_baseAt 14 = .ok (.goto 5, 3) := by decide +kernel
theorem dX1_baseAt_17 : decode cX1_baseAt 17 = .ok (.bipush (-4), 2) := by decide +kernel
theorem dX1_baseAt_19 : decode cX1_baseAt 19 = .ok (.ireturn, 1) := by decide +kernel
theorem dX1_differingDigits_0 : decode cX1_differingDigits 0 = .ok (.iload_n 0, 1) := by decide +kernel
theorem dX1_differingDigits_1 : decode cX1_differingDigits 1 = .ok (.iload_n 1, 1) := by decide +kernel
theorem dX1_differingDigits_2 : decode cX1_differingDigits 2 = .ok (.ixor, 1) := by decide +kernel
theorem dX1_differingDigits_3 : decode cX1_differingDigits 3 = .ok (.istore_n 2, 1) := by decide +kernel
theorem dX1_differingDigits_4 : decode cX1_differingDigits 4 = .ok (.iconst 0, 1) := by decide +kernel
theorem dX1_differingDigits_5 : decode cX1_differingDigits 5 = .ok (.istore_n 3, 1) := by decide +kernel
theorem dX1_differingDigits_6 : decode cX1_differingDigits 6 = .ok (.iconst 0, 1) := by decide +kernel
theorem dX1_differingDigits_7 : decode cX1_differingDigits 7 = .ok (.istore 4, 2) := by decide +kernel
theorem dX1_differingDigits_9 : decode cX1_differingDigits 9 = .ok (.iload 4, 2) := by decide +kernel
theorem dX1_differingDigits_11 : decode cX1_differingDigits 11 = .ok (.bipush 8, 2) := by decide +kernel
theorem dX1_differingDigits_13 : decode cX1_differingDigits 13 = .ok (.if_icmp .ge 24, 3) := by decide +kernel
theorem dX1_differingDigits_16 : decode cX1_differingDigits 16 = .ok (.iload_n 2, 1) := by decide +kernel
theorem dX1_differingDigits_17 : decode cX1_differingDigits 17 = .ok (.iconst 4, 1) := by decide +kernel
theorem dX1_differingDigits_18 : decode cX1_differingDigits 18 = .ok (.iload 4, 2) := by decide +kernel
theorem dX1_differingDigits_20 : decode cX1_differingDigits 20 = .ok (.imul, 1) := by decide +kernel
theorem dX1_differingDigits_21 : decode cX1_differingDigits 21 = .ok (.iushr, 1) := by decide +kernel
theorem dX1_differingDigits_22 : decode cX1_differingDigits 22 = .ok (.bipush 15, 2) := by decide +kernel
theorem dX1_differingDigits_24 : decode cX1_differingDigits 24 = .ok (.iand, 1) := by decide +kernel
theorem dX1_differingDigits_25 : decode cX1_differingDigits 25 = .ok (.ifCond .eq 6, 3) := by decide +kernel
theorem dX1_differingDigits_28 : decode cX1_differingDigits 28 = .ok (.iinc 3 1, 3) := by decide +kernel
theorem dX1_differingDigits_31 : decode cX1_differingDigits 31 = .ok (.iinc 4 1, 3) := by decide +kernel
theorem dX1_differingDigits_34 : decode cX1_differingDigits 34 = .ok (.goto (-25), 3) := by decide +kernel
theorem dX1_differingDigits_37 : decode cX1_differingDigits 37 = .ok (.iload_n 3, 1) := by decide +kernel
theorem dX1_differingDigits_38 : decode cX1_differingDigits 38 = .ok (.ireturn, 1) := by decide +kernel
theorem dX1_chooseBase_0 : decode cX1_chooseBase 0 = .ok (.bipush 8, 2) := by decide +kernel
theorem dX1_chooseBase_2 : decode cX1_chooseBase 2 = .ok (.istore_n 3, 1) := by decide +kernel
theorem dX1_chooseBase_3 : decode cX1_chooseBase 3 = .ok (.aload_n 1, 1) := by decide +kernel
theorem dX1_chooseBase_4 : decode cX1_chooseBase 4 = .ok (.aload_n 0, 1) := by decide +kernel
theorem dX1_chooseBase_5 : decode cX1_chooseBase 5 = .ok (.getfield 9, 3) := by decide +kernel
theorem dX1_chooseBase_8 : decode cX1_chooseBase 8 = .ok (.iload_n 2, 1) := by decide +kernel
theorem dX1_chooseBase_9 : decode cX1_chooseBase 9 = .ok (.iaload, 1) := by decide +kernel
theorem dX1_chooseBase_10 : decode cX1_chooseBase 10 = .ok (.invokevirtual 58, 3) := by decide +kernel
theorem dX1_chooseBase_13 : decode cX1_chooseBase 13 = .ok (.istore 4, 2) := by decide +kernel
theorem dX1_chooseBase_15 : decode cX1_chooseBase 15 = .ok (.iload_n 2, 1) := by decide +kernel
theorem dX1_chooseBase_16 : decode cX1_chooseBase 16 = .ok (.iconst 1, 1) := by decide +kernel
theorem dX1_chooseBase_17 : decode cX1_chooseBase 17 = .ok (.isub, 1) := by decide +kernel
theorem dX1_chooseBase_18 : decode cX1_chooseBase 18 = .ok (.istore 5, 2) := by decide +kernel
theorem dX1_chooseBase_20 : decode cX1_chooseBase 20 = .ok (.iload 5, 2) := by decide +kernel
theorem dX1_chooseBase_22 : decode cX1_chooseBase 22 = .ok (.ifCond .lt 95, 3) := by decide +kernel
theorem dX1_chooseBase_25 : decode cX1_chooseBase 25 = .ok (.iload 5, 2) := by decide +kernel
theorem dX1_chooseBase_27 : decode cX1_chooseBase 27 = .ok (.iload_n 2, 1) := by decide +kernel
theorem dX1_chooseBase_28 : decode cX1_chooseBase 28 = .ok (.iconst 3, 1) := by decide +kernel
theorem dX1_chooseBase_29 : decode cX1_chooseBase 29 = .ok (.isub, 1) := by decide +kernel
theorem dX1_chooseBase_30 : decode cX1_chooseBase 30 = .ok (.if_icmp .lt 87, 3) := by decide +kernel
theorem dX1_chooseBase_33 : decode cX1_chooseBase 33 = .ok (.aload_n 1, 1) := by decide +kernel
theorem dX1_chooseBase_34 : decode cX1_chooseBase 34 = .ok (.aload_n 0, 1) := by decide +kernel
theorem dX1_chooseBase_35 : decode cX1_chooseBase 35 = .ok (.getfield 9, 3) := by decide +kernel
theorem dX1_chooseBase_38 : decode cX1_chooseBase 38 = .ok (.iload 5, 2) := by decide +kernel
theorem dX1_chooseBase_40 : decode cX1_chooseBase 40 = .ok (.iaload, 1) := by decide +kernel
theorem dX1_chooseBase_41 : decode cX1_chooseBase 41 = .ok (.iconst 0, 1) := by decide +kernel
theorem dX1_chooseBase_42 : decode cX1_chooseBase 42 = .ok (.invokevirtual 44, 3) := by decide +kernel
theorem dX1_chooseBase_45 : decode cX1_chooseBase 45 = .ok (.ifCond .eq 66, 3) := by decide +kernel
theorem dX1_chooseBase_48 : decode cX1_chooseBase 48 = .ok (.aload_n 0, 1) := by decide +kernel
theorem dX1_chooseBase_49 : decode cX1_chooseBase 49 = .ok (.getfield 18, 3) := by decide +kernel
theorem dX1_chooseBase_52 : decode cX1_chooseBase 52 = .ok (.iload 5, 2) := by decide +kernel
theorem dX1_chooseBase_54 : decode cX1_chooseBase 54 = .ok (.iaload, 1) := by decide +kernel
theorem dX1_chooseBase_55 : decode cX1_chooseBase 55 = .ok (.iconst 2, 1) := by decide +kernel
theorem dX1_chooseBase_56 : decode cX1_chooseBase 56 = .ok (.if_icmp .ge 55, 3) := by decide +kernel
theorem dX1_chooseBase_59 : decode cX1_chooseBase 59 = .ok (.iconst 2, 1) := by decide +kernel
theorem dX1_chooseBase_60 : decode cX1_chooseBase 60 = .ok (.iload 4, 2) := by decide +kernel
theorem dX1_chooseBase_62 : decode cX1_chooseBase 62 = .ok (.aload_n 1, 1) := by decide +kernel
theorem dX1_chooseBase_63 : decode cX1_chooseBase 63 = .ok (.aload_n 0, 1) := by decide +kernel
theorem dX1_chooseBase_64 : decode cX1_chooseBase 64 = .ok (.getfield 9, 3) := by decide +kernel
theorem dX1_chooseBase_67 : decode cX1_chooseBase 67 = .ok (.iload 5, 2) := by decide +kernel
theorem dX1_chooseBase_69 : decode cX1_chooseBase 69 = .ok (.iaload, 1) := by decide +kernel
theorem dX1_chooseBase_70 : decode cX1_chooseBase 70 = .ok (.invokevirtual 58, 3) := by decide +kernel
theorem dX1_chooseBase_73 : decode cX1_chooseBase 73 = .ok (.invokestatic 61, 3) := by decide +kernel
theorem dX1_chooseBase_76 : decode cX1_chooseBase 76 = .ok (.iadd, 1) := by decide +kernel
theorem dX1_chooseBase_77 : decode cX1_chooseBase 77 = .ok (.istore 6, 2) := by decide +kernel
theorem dX1_chooseBase_79 : decode cX1_chooseBase 79 = .ok (.iload 6, 2) := by decide +kernel
theorem dX1_chooseBase_81 : decode cX1_chooseBase 81 = .ok (.iload_n 3, 1) := by decide +kernel
theorem dX1_chooseBase_82 : decode cX1_chooseBase 82 = .ok (.if_icmp .ge 29, 3) := by decide +kernel
theorem dX1_chooseBase_85 : decode cX1_chooseBase 85 = .ok (.iload 6, 2) := by decide +kernel
theorem dX1_chooseBase_87 : decode cX1_chooseBase 87 = .ok (.istore_n 3, 1) := by decide +kernel
theorem dX1_chooseBase_88 : decode cX1_chooseBase 88 = .ok (.aload_n 0, 1) := by decide +kernel
theorem dX1_chooseBase_89 : decode cX1_chooseBase 89 = .ok (.getfield 15, 3) := by decide +kernel
theorem dX1_chooseBase_92 : decode cX1_chooseBase 92 = .ok (.iload_n 2, 1) := by decide +kernel
theorem dX1_chooseBase_93 : decode cX1_chooseBase 93 = .ok (.iload 5, 2) := by decide +kernel
theorem dX1_chooseBase_95 : decode cX1_chooseBase 95 = .ok (.iastore, 1) := by decide +kernel
theorem dX1_chooseBase_96 : decode cX1_chooseBase 96 = .ok (.aload_n 0, 1) := by decide +kernel
theorem dX1_chooseBase_97 : decode cX1_chooseBase 97 = .ok (.getfield 18, 3) := by decide +kernel
theorem dX1_chooseBase_100 : decode cX1_chooseBase 100 = .ok (.iload_n 2, 1) := by decide +kernel
theorem dX1_chooseBase_101 : decode cX1_chooseBase 101 = .ok (.aload_n 0, 1) := by decide +kernel
theorem dX1_chooseBase_102 : decode cX1_chooseBase 102 = .ok (.getfield 18, 3) := by decide +kernel
theorem dX1_chooseBase_105 : decode cX1_chooseBase 105 = .ok (.iload 5, 2) := by decide +kernel
theorem dX1_chooseBase_107 : decode cX1_chooseBase 107 = .ok (.iaload, 1) := by decide +kernel
theorem dX1_chooseBase_108 : decode cX1_chooseBase 108 = .ok (.iconst 1, 1) := by decide +kernel
theorem dX1_chooseBase_109 : decode cX1_chooseBase 109 = .ok (.iadd, 1) := by decide +kernel
theorem dX1_chooseBase_110 : decode cX1_chooseBase 110 = .ok (.iastore, 1) := by decide +kernel
theorem dX1_chooseBase_111 : decode cX1_chooseBase 111 = .ok (.iinc 5 (-1), 3) := by decide +kernel
theorem dX1_chooseBase_114 : decode cX1_chooseBase 114 = .ok (.goto (-94), 3) := by decide +kernel
theorem dX1_chooseBase_117 : decode cX1_chooseBase 117 = .ok (.iload_n 3, 1) := by decide +kernel
theorem dX1_chooseBase_118 : decode cX1_chooseBase 118 = .ok (.ireturn, 1) := by decide +kernel
theorem dX1_placeKind_0 : decode cX1_placeKind 0 = .ok (.bipush 59, 2) := by decide +kernel
theorem dX1_placeKind_2 : decode cX1_placeKind 2 = .ok (.istore_n 3, 1) := by decide +kernel
theorem dX1_placeKind_3 : decode cX1_placeKind 3 = .ok (.iload_n 3, 1) := by decide +kernel
end
section
theorem dX1_placeKind_4 : decode cX1_placeKind 4 = .ok (.ifCond .lt 107, 3) := by decide +kernel
theorem dX1_placeKind_7 : decode cX1_placeKind 7 = .ok (.aload_n 0, 1) := by decide +kernel
theorem dX1_placeKind_8 : decode cX1_placeKind 8 = .ok (.getfield 25, 3) := by decide +kernel
theorem dX1_placeKind_11 : decode cX1_placeKind 11 = .ok (.bipush 60, 2) := by decide +kernel
theorem dX1_placeKind_13 : decode cX1_placeKind 13 = .ok (.if_icmp .ge 98, 3) := by decide +kernel
theorem dX1_placeKind_16 : decode cX1_placeKind 16 = .ok (.aload_n 0, 1) := by decide +kernel
theorem dX1_placeKind_17 : decode cX1_placeKind 17 = .ok (.getfield 21, 3) := by decide +kernel
theorem dX1_placeKind_20 : decode cX1_placeKind 20 = .ok (.iload_n 3, 1) := by decide +kernel
theorem dX1_placeKind_21 : decode cX1_placeKind 21 = .ok (.invokestatic 40, 3) := by decide +kernel
theorem dX1_placeKind_24 : decode cX1_placeKind 24 = .ok (.ifCond .eq 81, 3) := by decide +kernel
theorem dX1_placeKind_27 : decode cX1_placeKind 27 = .ok (.aload_n 1, 1) := by decide +kernel
theorem dX1_placeKind_28 : decode cX1_placeKind 28 = .ok (.iload_n 3, 1) := by decide +kernel
theorem dX1_placeKind_29 : decode cX1_placeKind 29 = .ok (.iload_n 2, 1) := by decide +kernel
theorem dX1_placeKind_30 : decode cX1_placeKind 30 = .ok (.invokevirtual 44, 3) := by decide +kernel
theorem dX1_placeKind_33 : decode cX1_placeKind 33 = .ok (.ifCond .eq 72, 3) := by decide +kernel
theorem dX1_placeKind_36 : decode cX1_placeKind 36 = .ok (.aload_n 0, 1) := by decide +kernel
theorem dX1_placeKind_37 : decode cX1_placeKind 37 = .ok (.getfield 25, 3) := by decide +kernel
theorem dX1_placeKind_40 : decode cX1_placeKind 40 = .ok (.istore 4, 2) := by decide +kernel
theorem dX1_placeKind_42 : decode cX1_placeKind 42 = .ok (.aload_n 0, 1) := by decide +kernel
theorem dX1_placeKind_43 : decode cX1_placeKind 43 = .ok (.getfield 9, 3) := by decide +kernel
theorem dX1_placeKind_46 : decode cX1_placeKind 46 = .ok (.iload 4, 2) := by decide +kernel
theorem dX1_placeKind_48 : decode cX1_placeKind 48 = .ok (.iload_n 3, 1) := by decide +kernel
theorem dX1_placeKind_49 : decode cX1_placeKind 49 = .ok (.iastore, 1) := by decide +kernel
theorem dX1_placeKind_50 : decode cX1_placeKind 50 = .ok (.aload_n 0, 1) := by decide +kernel
theorem dX1_placeKind_51 : decode cX1_placeKind 51 = .ok (.getfield 15, 3) := by decide +kernel
theorem dX1_placeKind_54 : decode cX1_placeKind 54 = .ok (.iload 4, 2) := by decide +kernel
theorem dX1_placeKind_56 : decode cX1_placeKind 56 = .ok (.bipush (-4), 2) := by decide +kernel
theorem dX1_placeKind_58 : decode cX1_placeKind 58 = .ok (.iastore, 1) := by decide +kernel
theorem dX1_placeKind_59 : decode cX1_placeKind 59 = .ok (.aload_n 0, 1) := by decide +kernel
theorem dX1_placeKind_60 : decode cX1_placeKind 60 = .ok (.getfield 18, 3) := by decide +kernel
theorem dX1_placeKind_63 : decode cX1_placeKind 63 = .ok (.iload 4, 2) := by decide +kernel
theorem dX1_placeKind_65 : decode cX1_placeKind 65 = .ok (.iconst 0, 1) := by decide +kernel
theorem dX1_placeKind_66 : decode cX1_placeKind 66 = .ok (.iastore, 1) := by decide +kernel
theorem dX1_placeKind_67 : decode cX1_placeKind 67 = .ok (.aload_n 0, 1) := by decide +kernel
theorem dX1_placeKind_68 : decode cX1_placeKind 68 = .ok (.dup, 1) := by decide +kernel
theorem dX1_placeKind_69 : decode cX1_placeKind 69 = .ok (.getfield 29, 3) := by decide +kernel
theorem dX1_placeKind_72 : decode cX1_placeKind 72 = .ok (.iload_n 2, 1) := by decide +kernel
theorem dX1_placeKind_73 : decode cX1_placeKind 73 = .ok (.ifCond .ne 13, 3) := by decide +kernel
theorem dX1_placeKind_76 : decode cX1_placeKind 76 = .ok (.aload_n 0, 1) := by decide +kernel
theorem dX1_placeKind_77 : decode cX1_placeKind 77 = .ok (.aload_n 1, 1) := by decide +kernel
theorem dX1_placeKind_78 : decode cX1_placeKind 78 = .ok (.iload 4, 2) := by decide +kernel
theorem dX1_placeKind_80 : decode cX1_placeKind 80 = .ok (.invokevirtual 50, 3) := by decide +kernel
theorem dX1_placeKind_83 : decode cX1_placeKind 83 = .ok (.goto 10, 3) := by decide +kernel
theorem dX1_placeKind_86 : decode cX1_placeKind 86 = .ok (.iconst 1, 1) := by decide +kernel
theorem dX1_placeKind_87 : decode cX1_placeKind 87 = .ok (.aload_n 1, 1) := by decide +kernel
theorem dX1_placeKind_88 : decode cX1_placeKind 88 = .ok (.iload_n 3, 1) := by decide +kernel
theorem dX1_placeKind_89 : decode cX1_placeKind 89 = .ok (.invokevirtual 54, 3) := by decide +kernel
theorem dX1_placeKind_92 : decode cX1_placeKind 92 = .ok (.iadd, 1) := by decide +kernel
theorem dX1_placeKind_93 : decode cX1_placeKind 93 = .ok (.iadd, 1) := by decide +kernel
theorem dX1_placeKind_94 : decode cX1_placeKind 94 = .ok (.putfield 29, 3) := by decide +kernel
theorem dX1_placeKind_97 : decode cX1_placeKind 97 = .ok (.aload_n 0, 1) := by decide +kernel
theorem dX1_placeKind_98 : decode cX1_placeKind 98 = .ok (.iload 4, 2) := by decide +kernel
theorem dX1_placeKind_100 : decode cX1_placeKind 100 = .ok (.iconst 1, 1) := by decide +kernel
theorem dX1_placeKind_101 : decode cX1_placeKind 101 = .ok (.iadd, 1) := by decide +kernel
theorem dX1_placeKind_102 : decode cX1_placeKind 102 = .ok (.putfield 25, 3) := by decide +kernel
theorem dX1_placeKind_105 : decode cX1_placeKind 105 = .ok (.iinc 3 (-1), 3) := by decide +kernel
theorem dX1_placeKind_108 : decode cX1_placeKind 108 = .ok (.goto (-105), 3) := by decide +kernel
theorem dX1_placeKind_111 : decode cX1_placeKind 111 = .ok (.return_, 1) := by decide +kernel
theorem dX1_fill_0 : decode cX1_fill 0 = .ok (.aload_n 0, 1) := by decide +kernel
theorem dX1_fill_1 : decode cX1_fill 1 = .ok (.lload_n 2, 1) := by decide +kernel
theorem dX1_fill_2 : decode cX1_fill 2 = .ok (.putfield 21, 3) := by decide +kernel
theorem dX1_fill_5 : decode cX1_fill 5 = .ok (.aload_n 0, 1) := by decide +kernel
theorem dX1_fill_6 : decode cX1_fill 6 = .ok (.iconst 0, 1) := by decide +kernel
theorem dX1_fill_7 : decode cX1_fill 7 = .ok (.putfield 25, 3) := by decide +kernel
theorem dX1_fill_10 : decode cX1_fill 10 = .ok (.aload_n 0, 1) := by decide +kernel
theorem dX1_fill_11 : decode cX1_fill 11 = .ok (.iconst 0, 1) := by decide +kernel
theorem dX1_fill_12 : decode cX1_fill 12 = .ok (.putfield 29, 3) := by decide +kernel
theorem dX1_fill_15 : decode cX1_fill 15 = .ok (.aload_n 0, 1) := by decide +kernel
theorem dX1_fill_16 : decode cX1_fill 16 = .ok (.aload_n 1, 1) := by decide +kernel
theorem dX1_fill_17 : decode cX1_fill 17 = .ok (.iconst 2, 1) := by decide +kernel
theorem dX1_fill_18 : decode cX1_fill 18 = .ok (.invokevirtual 32, 3) := by decide +kernel
theorem dX1_fill_21 : decode cX1_fill 21 = .ok (.aload_n 0, 1) := by decide +kernel
theorem dX1_fill_22 : decode cX1_fill 22 = .ok (.aload_n 1, 1) := by decide +kernel
theorem dX1_fill_23 : decode cX1_fill 23 = .ok (.iconst 1, 1) := by decide +kernel
theorem dX1_fill_24 : decode cX1_fill 24 = .ok (.invokevirtual 32, 3) := by decide +kernel
theorem dX1_fill_27 : decode cX1_fill 27 = .ok (.aload_n 0, 1) := by decide +kernel
theorem dX1_fill_28 : decode cX1_fill 28 = .ok (.aload_n 1, 1) := by decide +kernel
theorem dX1_fill_29 : decode cX1_fill 29 = .ok (.iconst 0, 1) := by decide +kernel
theorem dX1_fill_30 : decode cX1_fill 30 = .ok (.invokevirtual 32, 3) := by decide +kernel
theorem dX1_fill_33 : decode cX1_fill 33 = .ok (.return_, 1) := by decide +kernel
theorem dX4_holdsKind_0 : decode cX4_holdsKind 0 = .ok (.aload_n 1, 1) := by decide +kernel
theorem dX4_holdsKind_1 : decode cX4_holdsKind 1 = .ok (.invokevirtual 92, 3) := by decide +kernel
theorem dX4_holdsKind_4 : decode cX4_holdsKind 4 = .ok (.iload_n 2, 1) := by decide +kernel
theorem dX4_holdsKind_5 : decode cX4_holdsKind 5 = .ok (.invokestatic 149, 3) := by decide +kernel
theorem dX4_holdsKind_8 : decode cX4_holdsKind 8 = .ok (.ifCond .eq 19, 3) := by decide +kernel
theorem dX4_holdsKind_11 : decode cX4_holdsKind 11 = .ok (.aload_n 0, 1) := by decide +kernel
theorem dX4_holdsKind_12 : decode cX4_holdsKind 12 = .ok (.getfield 10, 3) := by decide +kernel
theorem dX4_holdsKind_15 : decode cX4_holdsKind 15 = .ok (.iload_n 2, 1) := by decide +kernel
theorem dX4_holdsKind_16 : decode cX4_holdsKind 16 = .ok (.iload_n 3, 1) := by decide +kernel
theorem dX4_holdsKind_17 : decode cX4_holdsKind 17 = .ok (.invokevirtual 176, 3) := by decide +kernel
theorem dX4_holdsKind_20 : decode cX4_holdsKind 20 = .ok (.ifCond .eq 7, 3) := by decide +kernel
theorem dX4_holdsKind_23 : decode cX4_holdsKind 23 = .ok (.iconst 1, 1) := by decide +kernel
theorem dX4_holdsKind_24 : decode cX4_holdsKind 24 = .ok (.goto 4, 3) := by decide +kernel
theorem dX4_holdsKind_27 : decode cX4_holdsKind 27 = .ok (.iconst 0, 1) := by decide +kernel
theorem dX4_holdsKind_28 : decode cX4_holdsKind 28 = .ok (.ireturn, 1) := by decide +kernel
theorem dX4_isEntry_0 : decode cX4_isEntry 0 = .ok (.aload_n 0, 1) := by decide +kernel
theorem dX4_isEntry_1 : decode cX4_isEntry 1 = .ok (.aload_n 1, 1) := by decide +kernel
theorem dX4_isEntry_2 : decode cX4_isEntry 2 = .ok (.iload_n 2, 1) := by decide +kernel
theorem dX4_isEntry_3 : decode cX4_isEntry 3 = .ok (.iconst 0, 1) := by decide +kernel
theorem dX4_isEntry_4 : decode cX4_isEntry 4 = .ok (.invokevirtual 67, 3) := by decide +kernel
theorem dX4_isEntry_7 : decode cX4_isEntry 7 = .ok (.ifCond .ne 13, 3) := by decide +kernel
theorem dX4_isEntry_10 : decode cX4_isEntry 10 = .ok (.aload_n 0, 1) := by decide +kernel
theorem dX4_isEntry_11 : decode cX4_isEntry 11 = .ok (.aload_n 1, 1) := by decide +kernel
theorem dX4_isEntry_12 : decode cX4_isEntry 12 = .ok (.iload_n 2, 1) := by decide +kernel
theorem dX4_isEntry_13 : decode cX4_isEntry 13 = .ok (.iconst 1, 1) := by decide +kernel
theorem dX4_isEntry_14 : decode cX4_isEntry 14 = .ok (.invokevirtual 67, 3) := by decide +kernel
theorem dX4_isEntry_17 : decode cX4_isEntry 17 = .ok (.ifCond .eq 7, 3) := by decide +kernel
theorem dX4_isEntry_20 : decode cX4_isEntry 20 = .ok (.iconst 1, 1) := by decide +kernel
theorem dX4_isEntry_21 : decode cX4_isEntry 21 = .ok (.goto 4, 3) := by decide +kernel
theorem dX4_isEntry_24 : decode cX4_isEntry 24 = .ok (.iconst 0, 1) := by decide +kernel
theorem dX4_isEntry_25 : decode cX4_isEntry 25 = .ok (.ireturn, 1) := by decide +kernel
theorem dX4_isCommitOrAbsent_0 : decode cX4_isCommitOrAbsent 0 = .ok (.iload_n 2, 1) := by decide +kernel
theorem dX4_isCommitOrAbsent_1 : decode cX4_isCommitOrAbsent 1 = .ok (.iconst (-1), 1) := by decide +kernel
theorem dX4_isCommitOrAbsent_2 : decode cX4_isCommitOrAbsent 2 = .ok (.if_icmp .eq 13, 3) := by decide +kernel
theorem dX4_isCommitOrAbsent_5 : decode cX4_isCommitOrAbsent 5 = .ok (.aload_n 0, 1) := by decide +kernel
theorem dX4_isCommitOrAbsent_6 : decode cX4_isCommitOrAbsent 6 = .ok (.aload_n 1, 1) := by decide +kernel
theorem dX4_isCommitOrAbsent_7 : decode cX4_isCommitOrAbsent 7 = .ok (.iload_n 2, 1) := by decide +kernel
theorem dX4_isCommitOrAbsent_8 : decode cX4_isCommitOrAbsent 8 = .ok (.iconst 2, 1) := by decide +kernel
theorem dX4_isCommitOrAbsent_9 : decode cX4_isCommitOrAbsent 9 = .ok (.invokevirtual 67, 3) := by decide +kernel
theorem dX4_isCommitOrAbsent_12 : decode cX4_isCommitOrAbsent 12 = .ok (.ifCond .eq 7, 3) := by decide +kernel
theorem dX4_isCommitOrAbsent_15 : decode cX4_isCommitOrAbsent 15 = .ok (.iconst 1, 1) := by decide +kernel
theorem dX4_isCommitOrAbsent_16 : decode cX4_isCommitOrAbsent 16 = .ok (.goto 4, 3) := by decide +kernel
theorem dX4_isCommitOrAbsent_19 : decode cX4_isCommitOrAbsent 19 = .ok (.iconst 0, 1) := by decide +kernel
theorem dX4_isCommitOrAbsent_20 : decode cX4_isCommitOrAbsent 20 = .ok (.ireturn, 1) := by decide +kernel
theorem dX4_writeObject_0 : decode cX4_writeObject 0 = .ok (.aload_n 0, 1) := by decide +kernel
theorem dX4_writeObject_1 : decode cX4_writeObject 1 = .ok (.getfield 10, 3) := by decide +kernel
theorem dX4_writeObject_4 : decode cX4_writeObject 4 = .ok (.iload_n 2, 1) := by decide +kernel
theorem dX4_writeObject_5 : decode cX4_writeObject 5 = .ok (.iload_n 3, 1) := by decide +kernel
theorem dX4_writeObject_6 : decode cX4_writeObject 6 = .ok (.iload 4, 2) := by decide +kernel
theorem dX4_writeObject_8 : decode cX4_writeObject 8 = .ok (.iload 5, 2) := by decide +kernel
theorem dX4_writeObject_10 : decode cX4_writeObject 10 = .ok (.invokevirtual 180, 3) := by decide +kernel
theorem dX4_writeObject_13 : decode cX4_writeObject 13 = .ok (.istore 6, 2) := by decide +kernel
theorem dX4_writeObject_15 : decode cX4_writeObject 15 = .ok (.iload 6, 2) := by decide +kernel
theorem dX4_writeObject_17 : decode cX4_writeObject 17 = .ok (.iconst (-1), 1) := by decide +kernel
theorem dX4_writeObject_18 : decode cX4_writeObject 18 = .ok (.if_icmp .ne 16, 3) := by decide +kernel
theorem dX4_writeObject_21 : decode cX4_writeObject 21 = .ok (.aload_n 0, 1) := by decide +kernel
theorem dX4_writeObject_22 : decode cX4_writeObject 22 = .ok (.getfield 10, 3) := by decide +kernel
theorem dX4_writeObject_25 : decode cX4_writeObject 25 = .ok (.invokevirtual 184, 3) := by decide +kernel
theorem dX4_writeObject_28 : decode cX4_writeObject 28 = .ok (.ifCond .eq 6, 3) := by decide +kernel
theorem dX4_writeObject_31 : decode cX4_writeObject 31 = .ok (.bipush (-3), 2) := by decide +kernel
theorem dX4_writeObject_33 : decode cX4_writeObject 33 = .ok (.ireturn, 1) := by decide +kernel
theorem dX4_writeObject_34 : decode cX4_writeObject 34 = .ok (.aload_n 1, 1) := by decide +kernel
theorem dX4_writeObject_35 : decode cX4_writeObject 35 = .ok (.invokevirtual 92, 3) := by decide +kernel
theorem dX4_writeObject_38 : decode cX4_writeObject 38 = .ok (.iload 6, 2) := by decide +kernel
theorem dX4_writeObject_40 : decode cX4_writeObject 40 = .ok (.invokestatic 149, 3) := by decide +kernel
theorem dX4_writeObject_43 : decode cX4_writeObject 43 = .ok (.ifCond .eq 6, 3) := by decide +kernel
theorem dX4_writeObject_46 : decode cX4_writeObject 46 = .ok (.iload 6, 2) := by decide +kernel
theorem dX4_writeObject_48 : decode cX4_writeObject 48 = .ok (.ireturn, 1) := by decide +kernel
theorem dX4_writeObject_49 : decode cX4_writeObject 49 = .ok (.aload_n 1, 1) := by decide +kernel
theorem dX4_writeObject_50 : decode cX4_writeObject 50 = .ok (.invokevirtual 187, 3) := by decide +kernel
theorem dX4_writeObject_53 : decode cX4_writeObject 53 = .ok (.ifCond .ne 6, 3) := by decide +kernel
theorem dX4_writeObject_56 : decode cX4_writeObject 56 = .ok (.bipush (-2), 2) := by decide +kernel
theorem dX4_writeObject_58 : decode cX4_writeObject 58 = .ok (.ireturn, 1) := by decide +kernel
theorem dX4_writeObject_59 : decode cX4_writeObject 59 = .ok (.iload 6, 2) := by decide +kernel
theorem dX4_writeObject_61 : decode cX4_writeObject 61 = .ok (.iconst (-1), 1) := by decide +kernel
theorem dX4_writeObject_62 : decode cX4_writeObject 62 = .ok (.if_icmp .ne 18, 3) := by decide +kernel
theorem dX4_writeObject_65 : decode cX4_writeObject 65 = .ok (.aload_n 0, 1) := by decide +kernel
theorem dX4_writeObject_66 : decode cX4_writeObject 66 = .ok (.getfield 10, 3) := by decide +kernel
theorem dX4_writeObject_69 : decode cX4_writeObject 69 = .ok (.iload_n 2, 1) := by decide +kernel
theorem dX4_writeObject_70 : decode cX4_writeObject 70 = .ok (.iload_n 3, 1) := by decide +kernel
theorem dX4_writeObject_71 : decode cX4_writeObject 71 = .ok (.iload 4, 2) := by decide +kernel
theorem dX4_writeObject_73 : decode cX4_writeObject 73 = .ok (.iload 5, 2) := by decide +kernel
theorem dX4_writeObject_75 : decode cX4_writeObject 75 = .ok (.invokevirtual 190, 3) := by decide +kernel
theorem dX4_writeObject_78 : decode cX4_writeObject 78 = .ok (.istore 6, 2) := by decide +kernel
theorem dX4_writeObject_80 : decode cX4_writeObject 80 = .ok (.aload_n 1, 1) := by decide +kernel
theorem dX4_writeObject_81 : decode cX4_writeObject 81 = .ok (.iload 6, 2) := by decide +kernel
theorem dX4_writeObject_83 : decode cX4_writeObject 83 = .ok (.invokevirtual 193, 3) := by decide +kernel
theorem dX4_writeObject_86 : decode cX4_writeObject 86 = .ok (.iload 6, 2) := by decide +kernel
theorem dX4_writeObject_88 : decode cX4_writeObject 88 = .ok (.ireturn, 1) := by decide +kernel
theorem dX4_clearTargets_0 : decode cX4_clearTargets 0 = .ok (.iconst 0, 1) := by decide +kernel
theorem dX4_clearTargets_1 : decode cX4_clearTargets 1 = .ok (.istore_n 1, 1) := by decide +kernel
theorem dX4_clearTargets_2 : decode cX4_clearTargets 2 = .ok (.iload_n 1, 1) := by decide +kernel
theorem dX4_clearTargets_3 : decode cX4_clearTargets 3 = .ok (.bipush 8, 2) := by decide +kernel
theorem dX4_clearTargets_5 : decode cX4_clearTargets 5 = .ok (.if_icmp .ge 17, 3) := by decide +kernel
theorem dX4_clearTargets_8 : decode cX4_clearTargets 8 = .ok (.aload_n 0, 1) := by decide +kernel
theorem dX4_clearTargets_9 : decode cX4_clearTargets 9 = .ok (.getfield 41, 3) := by decide +kernel
theorem dX4_clearTargets_12 : decode cX4_clearTargets 12 = .ok (.iload_n 1, 1) := by decide +kernel
theorem dX4_clearTargets_13 : decode cX4_clearTargets 13 = .ok (.bipush (-2), 2) := by decide +kernel
theorem dX4_clearTargets_15 : decode cX4_clearTargets 15 = .ok (.iastore, 1) := by decide +kernel
theorem dX4_clearTargets_16 : decode cX4_clearTargets 16 = .ok (.iinc 1 1, 3) := by decide +kernel
theorem dX4_clearTargets_19 : decode cX4_clearTargets 19 = .ok (.goto (-17), 3) := by decide +kernel
theorem dX4_clearTargets_22 : decode cX4_clearTargets 22 = .ok (.return_, 1) := by decide +kernel
theorem dX4_aimAtOne_0 : decode cX4_aimAtOne 0 = .ok (.aload_n 0, 1) := by decide +kernel
theorem dX4_aimAtOne_1 : decode cX4_aimAtOne 1 = .ok (.invokevirtual 196, 3) := by decide +kernel
theorem dX4_aimAtOne_4 : decode cX4_aimAtOne 4 = .ok (.aload_n 0, 1) := by decide +kernel
theorem dX4_aimAtOne_5 : decode cX4_aimAtOne 5 = .ok (.getfield 41, 3) := by decide +kernel
theorem dX4_aimAtOne_8 : decode cX4_aimAtOne 8 = .ok (.iload_n 1, 1) := by decide +kernel
theorem dX4_aimAtOne_9 : decode cX4_aimAtOne 9 = .ok (.iload_n 2, 1) := by decide +kernel
theorem dX4_aimAtOne_10 : decode cX4_aimAtOne 10 = .ok (.iastore, 1) := by decide +kernel
theorem dX4_aimAtOne_11 : decode cX4_aimAtOne 11 = .ok (.return_, 1) := by decide +kernel
theorem dX4_aimAtValues_0 : decode cX4_aimAtValues 0 = .ok (.aload_n 0, 1) := by decide +kernel
theorem dX4_aimAtValues_1 : decode cX4_aimAtValues 1 = .ok (.invokevirtual 196, 3) := by decide +kernel
theorem dX4_aimAtValues_4 : decode cX4_aimAtValues 4 = .ok (.iconst 0, 1) := by decide +kernel
theorem dX4_aimAtValues_5 : decode cX4_aimAtValues 5 = .ok (.istore 4, 2) := by decide +kernel
theorem dX4_aimAtValues_7 : decode cX4_aimAtValues 7 = .ok (.iload 4, 2) := by decide +kernel
theorem dX4_aimAtValues_9 : decode cX4_aimAtValues 9 = .ok (.iconst 4, 1) := by decide +kernel
theorem dX4_aimAtValues_10 : decode cX4_aimAtValues 10 = .ok (.if_icmp .ge 43, 3) := by decide +kernel
theorem dX4_aimAtValues_13 : decode cX4_aimAtValues 13 = .ok (.iload_n 2, 1) := by decide +kernel
theorem dX4_aimAtValues_14 : decode cX4_aimAtValues 14 = .ok (.iload 4, 2) := by decide +kernel
theorem dX4_aimAtValues_16 : decode cX4_aimAtValues 16 = .ok (.invokestatic 199, 3) := by decide +kernel
theorem dX4_aimAtValues_19 : decode cX4_aimAtValues 19 = .ok (.ifCond .eq 28, 3) := by decide +kernel
theorem dX4_aimAtValues_22 : decode cX4_aimAtValues 22 = .ok (.aload_n 1, 1) := by decide +kernel
theorem dX4_aimAtValues_23 : decode cX4_aimAtValues 23 = .ok (.iload 4, 2) := by decide +kernel
theorem dX4_aimAtValues_25 : decode cX4_aimAtValues 25 = .ok (.invokevirtual 63, 3) := by decide +kernel
theorem dX4_aimAtValues_28 : decode cX4_aimAtValues 28 = .ok (.iconst (-1), 1) := by decide +kernel
theorem dX4_aimAtValues_29 : decode cX4_aimAtValues 29 = .ok (.if_icmp .eq 18, 3) := by decide +kernel
theorem dX4_aimAtValues_32 : decode cX4_aimAtValues 32 = .ok (.aload_n 0, 1) := by decide +kernel
theorem dX4_aimAtValues_33 : decode cX4_aimAtValues 33 = .ok (.getfield 41, 3) := by decide +kernel
theorem dX4_aimAtValues_36 : decode cX4_aimAtValues 36 = .ok (.iload 4, 2) := by decide +kernel
theorem dX4_aimAtValues_38 : decode cX4_aimAtValues 38 = .ok (.iload_n 3, 1) := by decide +kernel
theorem dX4_aimAtValues_39 : decode cX4_aimAtValues 39 = .ok (.iadd, 1) := by decide +kernel
theorem dX4_aimAtValues_40 : decode cX4_aimAtValues 40 = .ok (.aload_n 1, 1) := by decide +kernel
theorem dX4_aimAtValues_41 : decode cX4_aimAtValues 41 = .ok (.iload 4, 2) := by decide +kernel
theorem dX4_aimAtValues_43 : decode cX4_aimAtValues 43 = .ok (.invokevirtual 63, 3) := by decide +kernel
theorem dX4_aimAtValues_46 : decode cX4_aimAtValues 46 = .ok (.iastore, 1) := by decide +kernel
theorem dX4_aimAtValues_47 : decode cX4_aimAtValues 47 = .ok (.iinc 4 1, 3) := by decide +kernel
theorem dX4_aimAtValues_50 : decode cX4_aimAtValues 50 = .ok (.goto (-43), 3) := by decide +kernel
theorem dX4_aimAtValues_53 : decode cX4_aimAtValues 53 = .ok (.return_, 1) := by decide +kernel
theorem dX4_verdictOn_0 : decode cX4_verdictOn 0 = .ok (.aload_n 1, 1) := by decide +kernel
theorem dX4_verdictOn_1 : decode cX4_verdictOn 1 = .ok (.iconst 4, 1) := by decide +kernel
theorem dX4_verdictOn_2 : decode cX4_verdictOn 2 = .ok (.iload_n 3, 1) := by decide +kernel
theorem dX4_verdictOn_3 : decode cX4_verdictOn 3 = .ok (.iadd, 1) := by decide +kernel
theorem dX4_verdictOn_4 : decode cX4_verdictOn 4 = .ok (.invokevirtual 63, 3) := by decide +kernel
theorem dX4_verdictOn_7 : decode cX4_verdictOn 7 = .ok (.istore 4, 2) := by decide +kernel
theorem dX4_verdictOn_9 : decode cX4_verdictOn 9 = .ok (.aload_n 2, 1) := by decide +kernel
theorem dX4_verdictOn_10 : decode cX4_verdictOn 10 = .ok (.iload_n 3, 1) := by decide +kernel
theorem dX4_verdictOn_11 : decode cX4_verdictOn 11 = .ok (.invokevirtual 63, 3) := by decide +kernel
theorem dX4_verdictOn_14 : decode cX4_verdictOn 14 = .ok (.iload 4, 2) := by decide +kernel
theorem dX4_verdictOn_16 : decode cX4_verdictOn 16 = .ok (.if_icmp .eq 5, 3) := by decide +kernel
theorem dX4_verdictOn_19 : decode cX4_verdictOn 19 = .ok (.iconst 2, 1) := by decide +kernel
theorem dX4_verdictOn_20 : decode cX4_verdictOn 20 = .ok (.ireturn, 1) := by decide +kernel
theorem dX4_verdictOn_21 : decode cX4_verdictOn 21 = .ok (.iload 4, 2) := by decide +kernel
theorem dX4_verdictOn_23 : decode cX4_verdictOn 23 = .ok (.iconst (-1), 1) := by decide +kernel
theorem dX4_verdictOn_24 : decode cX4_verdictOn 24 = .ok (.if_icmp .eq 25, 3) := by decide +kernel
theorem dX4_verdictOn_27 : decode cX4_verdictOn 27 = .ok (.aload_n 0, 1) := by decide +kernel
theorem dX4_verdictOn_28 : decode cX4_verdictOn 28 = .ok (.getfield 10, 3) := by decide +kernel
theorem dX4_verdictOn_31 : decode cX4_verdictOn 31 = .ok (.aload_n 1, 1) := by decide +kernel
theorem dX4_verdictOn_32 : decode cX4_verdictOn 32 = .ok (.iload_n 3, 1) := by decide +kernel
theorem dX4_verdictOn_33 : decode cX4_verdictOn 33 = .ok (.invokevirtual 63, 3) := by decide +kernel
theorem dX4_verdictOn_36 : decode cX4_verdictOn 36 = .ok (.invokevirtual 206, 3) := by decide +kernel
theorem dX4_verdictOn_39 : decode cX4_verdictOn 39 = .ok (.iload 4, 2) := by decide +kernel
theorem dX4_verdictOn_41 : decode cX4_verdictOn 41 = .ok (.invokestatic 149, 3) := by decide +kernel
theorem dX4_verdictOn_44 : decode cX4_verdictOn 44 = .ok (.ifCond .ne 5, 3) := by decide +kernel
theorem dX4_verdictOn_47 : decode cX4_verdictOn 47 = .ok (.iconst 3, 1) := by decide +kernel
theorem dX4_verdictOn_48 : decode cX4_verdictOn 48 = .ok (.ireturn, 1) := by decide +kernel
theorem dX4_verdictOn_49 : decode cX4_verdictOn 49 = .ok (.iconst 1, 1) := by decide +kernel
theorem dX4_verdictOn_50 : decode cX4_verdictOn 50 = .ok (.ireturn, 1) := by decide +kernel
theorem dX4_judge_0 : decode cX4_judge 0 = .ok (.iconst 1, 1) := by decide +kernel
theorem dX4_judge_1 : decode cX4_judge 1 = .ok (.istore 4, 2) := by decide +kernel
theorem dX4_judge_3 : decode cX4_judge 3 = .ok (.iconst 0, 1) := by decide +kernel
theorem dX4_judge_4 : decode cX4_judge 4 = .ok (.istore 5, 2) := by decide +kernel
theorem dX4_judge_6 : decode cX4_judge 6 = .ok (.iload 5, 2) := by decide +kernel
theorem dX4_judge_8 : decode cX4_judge 8 = .ok (.iconst 4, 1) := by decide +kernel
theorem dX4_judge_9 : decode cX4_judge 9 = .ok (.if_icmp .ge 70, 3) := by decide +kernel
theorem dX4_judge_12 : decode cX4_judge 12 = .ok (.aload_n 0, 1) := by decide +kernel
theorem dX4_judge_13 : decode cX4_judge 13 = .ok (.getfield 37, 3) := by decide +kernel
theorem dX4_judge_16 : decode cX4_judge 16 = .ok (.iload 5, 2) := by decide +kernel
theorem dX4_judge_18 : decode cX4_judge 18 = .ok (.iload_n 3, 1) := by decide +kernel
theorem dX4_judge_19 : decode cX4_judge 19 = .ok (.iload 5, 2) := by decide +kernel
theorem dX4_judge_21 : decode cX4_judge 21 = .ok (.invokestatic 199, 3) := by decide +kernel
theorem dX4_judge_24 : decode cX4_judge 24 = .ok (.ifCond .eq 14, 3) := by decide +kernel
theorem dX4_judge_27 : decode cX4_judge 27 = .ok (.aload_n 0, 1) := by decide +kernel
theorem dX4_judge_28 : decode cX4_judge 28 = .ok (.aload_n 1, 1) := by decide +kernel
theorem dX4_judge_29 : decode cX4_judge 29 = .ok (.aload_n 2, 1) := by decide +kernel
theorem dX4_judge_30 : decode cX4_judge 30 = .ok (.iload 5, 2) := by decide +kernel
theorem dX4_judge_32 : decode cX4_judge 32 = .ok (.invokevirtual 202, 3) := by decide +kernel
theorem dX4_judge_35 : decode cX4_judge 35 = .ok (.goto 4, 3) := by decide +kernel
theorem dX4_judge_38 : decode cX4_judge 38 = .ok (.iconst 0, 1) := by decide +kernel
theorem dX4_judge_39 : decode cX4_judge 39 = .ok (.iastore, 1) := by decide +kernel
theorem dX4_judge_40 : decode cX4_judge 40 = .ok (.iload 4, 2) := by decide +kernel
theorem dX4_judge_42 : decode cX4_judge 42 = .ok (.ifCond .eq 28, 3) := by decide +kernel
theorem dX4_judge_45 : decode cX4_judge 45 = .ok (.aload_n 0, 1) := by decide +kernel
theorem dX4_judge_46 : decode cX4_judge 46 = .ok (.getfield 37, 3) := by decide +kernel
theorem dX4_judge_49 : decode cX4_judge 49 = .ok (.iload 5, 2) := by decide +kernel
theorem dX4_judge_51 : decode cX4_judge 51 = .ok (.iaload, 1) := by decide +kernel
theorem dX4_judge_52 : decode cX4_judge 52 = .ok (.ifCond .eq 14, 3) := by decide +kernel
theorem dX4_judge_55 : decode cX4_judge 55 = .ok (.aload_n 0, 1) := by decide +kernel
theorem dX4_judge_56 : decode cX4_judge 56 = .ok (.getfield 37, 3) := by decide +kernel
theorem dX4_judge_59 : decode cX4_judge 59 = .ok (.iload 5, 2) := by decide +kernel
theorem dX4_judge_61 : decode cX4_judge 61 = .ok (.iaload, 1) := by decide +kernel
theorem dX4_judge_62 : decode cX4_judge 62 = .ok (.iconst 1, 1) := by decide +kernel
theorem dX4_judge_63 : decode cX4_judge 63 = .ok (.if_icmp .ne 7, 3) := by decide +kernel
theorem dX4_judge_66 : decode cX4_judge 66 = .ok (.iconst 1, 1) := by decide +kernel
theorem dX4_judge_67 : decode cX4_judge 67 = .ok (.goto 4, 3) := by decide +kernel
theorem dX4_judge_70 : decode cX4_judge 70 = .ok (.iconst 0, 1) := by decide +kernel
theorem dX4_judge_71 : decode cX4_judge 71 = .ok (.istore 4, 2) := by decide +kernel
theorem dX4_judge_73 : decode cX4_judge 73 = .ok (.iinc 5 1, 3) := by decide +kernel
theorem dX4_judge_76 : decode cX4_judge 76 = .ok (.goto (-70), 3) := by decide +kernel
theorem dX4_judge_79 : decode cX4_judge 79 = .ok (.iload 4, 2) := by decide +kernel
theorem dX4_judge_81 : decode cX4_judge 81 = .ok (.ireturn, 1) := by decide +kernel
theorem dX4_carryOutPush_0 : decode cX4_carryOutPush 0 = .ok (.aload_n 2, 1) := by decide +kernel
theorem dX4_carryOutPush_1 : decode cX4_carryOutPush 1 = .ok (.aload_n 0, 1) := by decide +kernel
theorem dX4_carryOutPush_2 : decode cX4_carryOutPush 2 = .ok (.getfield 33, 3) := by decide +kernel
theorem dX4_carryOutPush_5 : decode cX4_carryOutPush 5 = .ok (.invokevirtual 113, 3) := by decide +kernel
theorem dX4_carryOutPush_8 : decode cX4_carryOutPush 8 = .ok (.invokevirtual 116, 3) := by decide +kernel
theorem dX4_carryOutPush_11 : decode cX4_carryOutPush 11 = .ok (.ifCond .ne 5, 3) := by decide +kernel
theorem dX4_carryOutPush_14 : decode cX4_carryOutPush 14 = .ok (.iconst 0, 1) := by decide +kernel
theorem dX4_carryOutPush_15 : decode cX4_carryOutPush 15 = .ok (.ireturn, 1) := by decide +kernel
theorem dX4_carryOutPush_16 : decode cX4_carryOutPush 16 = .ok (.aload_n 0, 1) := by decide +kernel
theorem dX4_carryOutPush_17 : decode cX4_carryOutPush 17 = .ok (.aload_n 1, 1) := by decide +kernel
theorem dX4_carryOutPush_18 : decode cX4_carryOutPush 18 = .ok (.iload_n 3, 1) := by decide +kernel
theorem dX4_carryOutPush_19 : decode cX4_carryOutPush 19 = .ok (.iconst 0, 1) := by decide +kernel
theorem dX4_carryOutPush_20 : decode cX4_carryOutPush 20 = .ok (.invokevirtual 120, 3) := by decide +kernel
theorem dX4_carryOutPush_23 : decode cX4_carryOutPush 23 = .ok (.aload_n 2, 1) := by decide +kernel
theorem dX4_carryOutPush_24 : decode cX4_carryOutPush 24 = .ok (.aload_n 0, 1) := by decide +kernel
theorem dX4_carryOutPush_25 : decode cX4_carryOutPush 25 = .ok (.getfield 41, 3) := by decide +kernel
theorem dX4_carryOutPush_28 : decode cX4_carryOutPush 28 = .ok (.invokevirtual 78, 3) := by decide +kernel
theorem dX4_carryOutPush_31 : decode cX4_carryOutPush 31 = .ok (.ifCond .ne 5, 3) := by decide +kernel
theorem dX4_carryOutPush_34 : decode cX4_carryOutPush 34 = .ok (.iconst 0, 1) := by decide +kernel
theorem dX4_carryOutPush_35 : decode cX4_carryOutPush 35 = .ok (.ireturn, 1) := by decide +kernel
theorem dX4_carryOutPush_36 : decode cX4_carryOutPush 36 = .ok (.aload_n 0, 1) := by decide +kernel
theorem dX4_carryOutPush_37 : decode cX4_carryOutPush 37 = .ok (.aload_n 1, 1) := by decide +kernel
theorem dX4_carryOutPush_38 : decode cX4_carryOutPush 38 = .ok (.iload_n 3, 1) := by decide +kernel
theorem dX4_carryOutPush_39 : decode cX4_carryOutPush 39 = .ok (.iconst 4, 1) := by decide +kernel
theorem dX4_carryOutPush_40 : decode cX4_carryOutPush 40 = .ok (.invokevirtual 120, 3) := by decide +kernel
theorem dX4_carryOutPush_43 : decode cX4_carryOutPush 43 = .ok (.aload_n 1, 1) := by decide +kernel
theorem dX4_carryOutPush_44 : decode cX4_carryOutPush 44 = .ok (.aload_n 0, 1) := by decide +kernel
theorem dX4_carryOutPush_45 : decode cX4_carryOutPush 45 = .ok (.getfield 41, 3) := by decide +kernel
theorem dX4_carryOutPush_48 : decode cX4_carryOutPush 48 = .ok (.invokevirtual 78, 3) := by decide +kernel
theorem dX4_carryOutPush_51 : decode cX4_carryOutPush 51 = .ok (.ireturn, 1) := by decide +kernel
theorem dX4_blob_0 : decode cX4_blob 0 = .ok (.iload_n 1, 1) := by decide +kernel
theorem dX4_blob_1 : decode cX4_blob 1 = .ok (.invokestatic 44, 3) := by decide +kernel
theorem dX4_blob_4 : decode cX4_blob 4 = .ok (.ifCond .ne 5, 3) := by decide +kernel
theorem dX4_blob_7 : decode cX4_blob 7 = .ok (.iconst (-1), 1) := by decide +kernel
theorem dX4_blob_8 : decode cX4_blob 8 = .ok (.ireturn, 1) := by decide +kernel
theorem dX4_blob_9 : decode cX4_blob 9 = .ok (.aload_n 0, 1) := by decide +kernel
theorem dX4_blob_10 : decode cX4_blob 10 = .ok (.getfield 18, 3) := by decide +kernel
theorem dX4_blob_13 : decode cX4_blob 13 = .ok (.iload_n 1, 1) := by decide +kernel
theorem dX4_blob_14 : decode cX4_blob 14 = .ok (.aaload, 1) := by decide +kernel
theorem dX4_blob_15 : decode cX4_blob 15 = .ok (.invokevirtual 48, 3) := by decide +kernel
theorem dX4_blob_18 : decode cX4_blob 18 = .ok (.ifCond .ne 6, 3) := by decide +kernel
theorem dX4_blob_21 : decode cX4_blob 21 = .ok (.bipush (-2), 2) := by decide +kernel
theorem dX4_blob_23 : decode cX4_blob 23 = .ok (.ireturn, 1) := by decide +kernel
theorem dX4_blob_24 : decode cX4_blob 24 = .ok (.aload_n 0, 1) := by decide +kernel
theorem dX4_blob_25 : decode cX4_blob 25 = .ok (.aload_n 0, 1) := by decide +kernel
theorem dX4_blob_26 : decode cX4_blob 26 = .ok (.getfield 18, 3) := by decide +kernel
theorem dX4_blob_29 : decode cX4_blob 29 = .ok (.iload_n 1, 1) := by decide +kernel
theorem dX4_blob_30 : decode cX4_blob 30 = .ok (.aaload, 1) := by decide +kernel
theorem dX4_blob_31 : decode cX4_blob 31 = .ok (.iconst 0, 1) := by decide +kernel
theorem dX4_blob_32 : decode cX4_blob 32 = .ok (.iload_n 2, 1) := by decide +kernel
theorem dX4_blob_33 : decode cX4_blob 33 = .ok (.iconst (-1), 1) := by decide +kernel
theorem dX4_blob_34 : decode cX4_blob 34 = .ok (.iconst (-1), 1) := by decide +kernel
theorem dX4_blob_35 : decode cX4_blob 35 = .ok (.invokevirtual 52, 3) := by decide +kernel
theorem dX4_blob_38 : decode cX4_blob 38 = .ok (.ireturn, 1) := by decide +kernel
theorem dX4_tree_0 : decode cX4_tree 0 = .ok (.iload_n 1, 1) := by decide +kernel
theorem dX4_tree_1 : decode cX4_tree 1 = .ok (.invokestatic 44, 3) := by decide +kernel
theorem dX4_tree_4 : decode cX4_tree 4 = .ok (.ifCond .ne 5, 3) := by decide +kernel
theorem dX4_tree_7 : decode cX4_tree 7 = .ok (.iconst (-1), 1) := by decide +kernel
theorem dX4_tree_8 : decode cX4_tree 8 = .ok (.ireturn, 1) := by decide +kernel
theorem dX4_tree_9 : decode cX4_tree 9 = .ok (.aload_n 0, 1) := by decide +kernel
theorem dX4_tree_10 : decode cX4_tree 10 = .ok (.getfield 18, 3) := by decide +kernel
theorem dX4_tree_13 : decode cX4_tree 13 = .ok (.iload_n 1, 1) := by decide +kernel
theorem dX4_tree_14 : decode cX4_tree 14 = .ok (.aaload, 1) := by decide +kernel
theorem dX4_tree_15 : decode cX4_tree 15 = .ok (.astore 4, 2) := by decide +kernel
theorem dX4_tree_17 : decode cX4_tree 17 = .ok (.aload 4, 2) := by decide +kernel
theorem dX4_tree_19 : decode cX4_tree 19 = .ok (.invokevirtual 48, 3) := by decide +kernel
theorem dX4_tree_22 : decode cX4_tree 22 = .ok (.ifCond .ne 6, 3) := by decide +kernel
theorem dX4_tree_25 : decode cX4_tree 25 = .ok (.bipush (-2), 2) := by decide +kernel
theorem dX4_tree_27 : decode cX4_tree 27 = .ok (.ireturn, 1) := by decide +kernel
theorem dX4_tree_28 : decode cX4_tree 28 = .ok (.aload_n 0, 1) := by decide +kernel
theorem dX4_tree_29 : decode cX4_tree 29 = .ok (.aload 4, 2) := by decide +kernel
theorem dX4_tree_31 : decode cX4_tree 31 = .ok (.iload_n 2, 1) := by decide +kernel
theorem dX4_tree_32 : decode cX4_tree 32 = .ok (.invokevirtual 56, 3) := by decide +kernel
theorem dX4_tree_35 : decode cX4_tree 35 = .ok (.ifCond .eq 18, 3) := by decide +kernel
theorem dX4_tree_38 : decode cX4_tree 38 = .ok (.iload_n 3, 1) := by decide +kernel
theorem dX4_tree_39 : decode cX4_tree 39 = .ok (.iconst (-1), 1) := by decide +kernel
theorem dX4_tree_40 : decode cX4_tree 40 = .ok (.if_icmp .eq 15, 3) := by decide +kernel
theorem dX4_tree_43 : decode cX4_tree 43 = .ok (.aload_n 0, 1) := by decide +kernel
theorem dX4_tree_44 : decode cX4_tree 44 = .ok (.aload 4, 2) := by decide +kernel
theorem dX4_tree_46 : decode cX4_tree 46 = .ok (.iload_n 3, 1) := by decide +kernel
theorem dX4_tree_47 : decode cX4_tree 47 = .ok (.invokevirtual 56, 3) := by decide +kernel
theorem dX4_tree_50 : decode cX4_tree 50 = .ok (.ifCond .ne 5, 3) := by decide +kernel
theorem dX4_tree_53 : decode cX4_tree 53 = .ok (.iconst (-1), 1) := by decide +kernel
theorem dX4_tree_54 : decode cX4_tree 54 = .ok (.ireturn, 1) := by decide +kernel
theorem dX4_tree_55 : decode cX4_tree 55 = .ok (.aload_n 0, 1) := by decide +kernel
theorem dX4_tree_56 : decode cX4_tree 56 = .ok (.aload 4, 2) := by decide +kernel
theorem dX4_tree_58 : decode cX4_tree 58 = .ok (.iconst 1, 1) := by decide +kernel
theorem dX4_tree_59 : decode cX4_tree 59 = .ok (.iload_n 2, 1) := by decide +kernel
theorem dX4_tree_60 : decode cX4_tree 60 = .ok (.iload_n 3, 1) := by decide +kernel
theorem dX4_tree_61 : decode cX4_tree 61 = .ok (.iconst (-1), 1) := by decide +kernel
theorem dX4_tree_62 : decode cX4_tree 62 = .ok (.invokevirtual 52, 3) := by decide +kernel
theorem dX4_tree_65 : decode cX4_tree 65 = .ok (.ireturn, 1) := by decide +kernel
theorem dX4_commit_0 : decode cX4_commit 0 = .ok (.iload_n 1, 1) := by decide +kernel
theorem dX4_commit_1 : decode cX4_commit 1 = .ok (.invokestatic 44, 3) := by decide +kernel
theorem dX4_commit_4 : decode cX4_commit 4 = .ok (.ifCond .eq 10, 3) := by decide +kernel
theorem dX4_commit_7 : decode cX4_commit 7 = .ok (.iload_n 2, 1) := by decide +kernel
theorem dX4_commit_8 : decode cX4_commit 8 = .ok (.invokestatic 60, 3) := by decide +kernel
theorem dX4_commit_11 : decode cX4_commit 11 = .ok (.ifCond .ne 5, 3) := by decide +kernel
theorem dX4_commit_14 : decode cX4_commit 14 = .ok (.iconst (-1), 1) := by decide +kernel
theorem dX4_commit_15 : decode cX4_commit 15 = .ok (.ireturn, 1) := by decide +kernel
theorem dX4_commit_16 : decode cX4_commit 16 = .ok (.aload_n 0, 1) := by decide +kernel
theorem dX4_commit_17 : decode cX4_commit 17 = .ok (.getfield 18, 3) := by decide +kernel
theorem dX4_commit_20 : decode cX4_commit 20 = .ok (.iload_n 1, 1) := by decide +kernel
theorem dX4_commit_21 : decode cX4_commit 21 = .ok (.aaload, 1) := by decide +kernel
theorem dX4_commit_22 : decode cX4_commit 22 = .ok (.astore 5, 2) := by decide +kernel
theorem dX4_commit_24 : decode cX4_commit 24 = .ok (.aload 5, 2) := by decide +kernel
theorem dX4_commit_26 : decode cX4_commit 26 = .ok (.invokevirtual 48, 3) := by decide +kernel
theorem dX4_commit_29 : decode cX4_commit 29 = .ok (.ifCond .ne 6, 3) := by decide +kernel
theorem dX4_commit_32 : decode cX4_commit 32 = .ok (.bipush (-2), 2) := by decide +kernel
theorem dX4_commit_34 : decode cX4_commit 34 = .ok (.ireturn, 1) := by decide +kernel
theorem dX4_commit_35 : decode cX4_commit 35 = .ok (.aload 5, 2) := by decide +kernel
theorem dX4_commit_37 : decode cX4_commit 37 = .ok (.iload_n 2, 1) := by decide +kernel
theorem dX4_commit_38 : decode cX4_commit 38 = .ok (.invokevirtual 63, 3) := by decide +kernel
theorem dX4_commit_41 : decode cX4_commit 41 = .ok (.istore 6, 2) := by decide +kernel
theorem dX4_commit_43 : decode cX4_commit 43 = .ok (.aload_n 0, 1) := by decide +kernel
theorem dX4_commit_44 : decode cX4_commit 44 = .ok (.aload 5, 2) := by decide +kernel
theorem dX4_commit_46 : decode cX4_commit 46 = .ok (.iload_n 3, 1) := by decide +kernel
theorem dX4_commit_47 : decode cX4_commit 47 = .ok (.iconst 1, 1) := by decide +kernel
theorem dX4_commit_48 : decode cX4_commit 48 = .ok (.invokevirtual 67, 3) := by decide +kernel
theorem dX4_commit_51 : decode cX4_commit 51 = .ok (.ifCond .eq 14, 3) := by decide +kernel
theorem dX4_commit_54 : decode cX4_commit 54 = .ok (.aload_n 0, 1) := by decide +kernel
theorem dX4_commit_55 : decode cX4_commit 55 = .ok (.aload 5, 2) := by decide +kernel
theorem dX4_commit_57 : decode cX4_commit 57 = .ok (.iload 4, 2) := by decide +kernel
theorem dX4_commit_59 : decode cX4_commit 59 = .ok (.invokevirtual 71, 3) := by decide +kernel
theorem dX4_commit_62 : decode cX4_commit 62 = .ok (.ifCond .ne 5, 3) := by decide +kernel
theorem dX4_commit_65 : decode cX4_commit 65 = .ok (.iconst (-1), 1) := by decide +kernel
theorem dX4_commit_66 : decode cX4_commit 66 = .ok (.ireturn, 1) := by decide +kernel
theorem dX4_commit_67 : decode cX4_commit 67 = .ok (.iload 4, 2) := by decide +kernel
theorem dX4_commit_69 : decode cX4_commit 69 = .ok (.iconst (-1), 1) := by decide +kernel
theorem dX4_commit_70 : decode cX4_commit 70 = .ok (.if_icmp .eq 12, 3) := by decide +kernel
theorem dX4_commit_73 : decode cX4_commit 73 = .ok (.iload 4, 2) := by decide +kernel
theorem dX4_commit_75 : decode cX4_commit 75 = .ok (.iload 6, 2) := by decide +kernel
theorem dX4_commit_77 : decode cX4_commit 77 = .ok (.if_icmp .ne 5, 3) := by decide +kernel
theorem dX4_commit_80 : decode cX4_commit 80 = .ok (.iconst (-1), 1) := by decide +kernel
theorem dX4_commit_81 : decode cX4_commit 81 = .ok (.ireturn, 1) := by decide +kernel
theorem dX4_commit_82 : decode cX4_commit 82 = .ok (.iload 6, 2) := by decide +kernel
theorem dX4_commit_84 : decode cX4_commit 84 = .ok (.iconst (-1), 1) := by decide +kernel
theorem dX4_commit_85 : decode cX4_commit 85 = .ok (.if_icmp .ne 17, 3) := by decide +kernel
theorem dX4_commit_88 : decode cX4_commit 88 = .ok (.aload_n 0, 1) := by decide +kernel
theorem dX4_commit_89 : decode cX4_commit 89 = .ok (.aload 5, 2) := by decide +kernel
theorem dX4_commit_91 : decode cX4_commit 91 = .ok (.iconst 2, 1) := by decide +kernel
theorem dX4_commit_92 : decode cX4_commit 92 = .ok (.iload_n 3, 1) := by decide +kernel
theorem dX4_commit_93 : decode cX4_commit 93 = .ok (.iload 4, 2) := by decide +kernel
theorem dX4_commit_95 : decode cX4_commit 95 = .ok (.iconst (-1), 1) := by decide +kernel
theorem dX4_commit_96 : decode cX4_commit 96 = .ok (.invokevirtual 52, 3) := by decide +kernel
theorem dX4_commit_99 : decode cX4_commit 99 = .ok (.goto 15, 3) := by decide +kernel
theorem dX4_commit_102 : decode cX4_commit 102 = .ok (.aload_n 0, 1) := by decide +kernel
theorem dX4_commit_103 : decode cX4_commit 103 = .ok (.aload 5, 2) := by decide +kernel
theorem dX4_commit_105 : decode cX4_commit 105 = .ok (.iconst 2, 1) := by decide +kernel
theorem dX4_commit_106 : decode cX4_commit 106 = .ok (.iload_n 3, 1) := by decide +kernel
theorem dX4_commit_107 : decode cX4_commit 107 = .ok (.iload 6, 2) := by decide +kernel
theorem dX4_commit_109 : decode cX4_commit 109 = .ok (.iload 4, 2) := by decide +kernel
theorem dX4_commit_111 : decode cX4_commit 111 = .ok (.invokevirtual 52, 3) := by decide +kernel
theorem dX4_commit_114 : decode cX4_commit 114 = .ok (.istore 7, 2) := by decide +kernel
theorem dX4_commit_116 : decode cX4_commit 116 = .ok (.iload 7, 2) := by decide +kernel
theorem dX4_commit_118 : decode cX4_commit 118 = .ok (.ifCond .ge 6, 3) := by decide +kernel
theorem dX4_commit_121 : decode cX4_commit 121 = .ok (.iload 7, 2) := by decide +kernel
theorem dX4_commit_123 : decode cX4_commit 123 = .ok (.ireturn, 1) := by decide +kernel
theorem dX4_commit_124 : decode cX4_commit 124 = .ok (.aload_n 0, 1) := by decide +kernel
theorem dX4_commit_125 : decode cX4_commit 125 = .ok (.iload_n 2, 1) := by decide +kernel
end
section
theorem dX4_commit_126 : decode cX4_commit 126 = .ok (.iload 7, 2) := by decide +kernel
theorem dX4_commit_128 : decode cX4_commit 128 = .ok (.invokevirtual 74, 3) := by decide +kernel
theorem dX4_commit_131 : decode cX4_commit 131 = .ok (.aload 5, 2) := by decide +kernel
theorem dX4_commit_133 : decode cX4_commit 133 = .ok (.aload_n 0, 1) := by decide +kernel
theorem dX4_commit_134 : decode cX4_commit 134 = .ok (.getfield 41, 3) := by decide +kernel
theorem dX4_commit_137 : decode cX4_commit 137 = .ok (.invokevirtual 78, 3) := by decide +kernel
theorem dX4_commit_140 : decode cX4_commit 140 = .ok (.ifCond .eq 8, 3) := by decide +kernel
theorem dX4_commit_143 : decode cX4_commit 143 = .ok (.iload 7, 2) := by decide +kernel
theorem dX4_commit_145 : decode cX4_commit 145 = .ok (.goto 5, 3) := by decide +kernel
theorem dX4_commit_148 : decode cX4_commit 148 = .ok (.bipush (-2), 2) := by decide +kernel
theorem dX4_commit_150 : decode cX4_commit 150 = .ok (.ireturn, 1) := by decide +kernel
theorem dX4_point_0 : decode cX4_point 0 = .ok (.iload_n 1, 1) := by decide +kernel
theorem dX4_point_1 : decode cX4_point 1 = .ok (.invokestatic 44, 3) := by decide +kernel
theorem dX4_point_4 : decode cX4_point 4 = .ok (.ifCond .eq 10, 3) := by decide +kernel
theorem dX4_point_7 : decode cX4_point 7 = .ok (.iload_n 2, 1) := by decide +kernel
theorem dX4_point_8 : decode cX4_point 8 = .ok (.invokestatic 60, 3) := by decide +kernel
theorem dX4_point_11 : decode cX4_point 11 = .ok (.ifCond .ne 5, 3) := by decide +kernel
theorem dX4_point_14 : decode cX4_point 14 = .ok (.iconst (-1), 1) := by decide +kernel
theorem dX4_point_15 : decode cX4_point 15 = .ok (.ireturn, 1) := by decide +kernel
theorem dX4_point_16 : decode cX4_point 16 = .ok (.aload_n 0, 1) := by decide +kernel
theorem dX4_point_17 : decode cX4_point 17 = .ok (.getfield 18, 3) := by decide +kernel
theorem dX4_point_20 : decode cX4_point 20 = .ok (.iload_n 1, 1) := by decide +kernel
theorem dX4_point_21 : decode cX4_point 21 = .ok (.aaload, 1) := by decide +kernel
theorem dX4_point_22 : decode cX4_point 22 = .ok (.astore 4, 2) := by decide +kernel
theorem dX4_point_24 : decode cX4_point 24 = .ok (.aload 4, 2) := by decide +kernel
theorem dX4_point_26 : decode cX4_point 26 = .ok (.invokevirtual 48, 3) := by decide +kernel
theorem dX4_point_29 : decode cX4_point 29 = .ok (.ifCond .ne 6, 3) := by decide +kernel
theorem dX4_point_32 : decode cX4_point 32 = .ok (.bipush (-2), 2) := by decide +kernel
theorem dX4_point_34 : decode cX4_point 34 = .ok (.ireturn, 1) := by decide +kernel
theorem dX4_point_35 : decode cX4_point 35 = .ok (.aload_n 0, 1) := by decide +kernel
theorem dX4_point_36 : decode cX4_point 36 = .ok (.aload 4, 2) := by decide +kernel
theorem dX4_point_38 : decode cX4_point 38 = .ok (.iload_n 3, 1) := by decide +kernel
theorem dX4_point_39 : decode cX4_point 39 = .ok (.invokevirtual 71, 3) := by decide +kernel
theorem dX4_point_42 : decode cX4_point 42 = .ok (.ifCond .ne 5, 3) := by decide +kernel
theorem dX4_point_45 : decode cX4_point 45 = .ok (.iconst (-1), 1) := by decide +kernel
theorem dX4_point_46 : decode cX4_point 46 = .ok (.ireturn, 1) := by decide +kernel
theorem dX4_point_47 : decode cX4_point 47 = .ok (.aload 4, 2) := by decide +kernel
theorem dX4_point_49 : decode cX4_point 49 = .ok (.iload_n 2, 1) := by decide +kernel
theorem dX4_point_50 : decode cX4_point 50 = .ok (.invokevirtual 63, 3) := by decide +kernel
theorem dX4_point_53 : decode cX4_point 53 = .ok (.iload_n 3, 1) := by decide +kernel
theorem dX4_point_54 : decode cX4_point 54 = .ok (.if_icmp .ne 5, 3) := by decide +kernel
theorem dX4_point_57 : decode cX4_point 57 = .ok (.iconst 0, 1) := by decide +kernel
theorem dX4_point_58 : decode cX4_point 58 = .ok (.ireturn, 1) := by decide +kernel
theorem dX4_point_59 : decode cX4_point 59 = .ok (.aload_n 0, 1) := by decide +kernel
theorem dX4_point_60 : decode cX4_point 60 = .ok (.iload_n 2, 1) := by decide +kernel
theorem dX4_point_61 : decode cX4_point 61 = .ok (.iload_n 3, 1) := by decide +kernel
theorem dX4_point_62 : decode cX4_point 62 = .ok (.invokevirtual 74, 3) := by decide +kernel
theorem dX4_point_65 : decode cX4_point 65 = .ok (.aload 4, 2) := by decide +kernel
theorem dX4_point_67 : decode cX4_point 67 = .ok (.aload_n 0, 1) := by decide +kernel
theorem dX4_point_68 : decode cX4_point 68 = .ok (.getfield 41, 3) := by decide +kernel
theorem dX4_point_71 : decode cX4_point 71 = .ok (.invokevirtual 78, 3) := by decide +kernel
theorem dX4_point_74 : decode cX4_point 74 = .ok (.ifCond .eq 7, 3) := by decide +kernel
theorem dX4_point_77 : decode cX4_point 77 = .ok (.iconst 1, 1) := by decide +kernel
theorem dX4_point_78 : decode cX4_point 78 = .ok (.goto 5, 3) := by decide +kernel
theorem dX4_point_81 : decode cX4_point 81 = .ok (.bipush (-2), 2) := by decide +kernel
theorem dX4_point_83 : decode cX4_point 83 = .ok (.ireturn, 1) := by decide +kernel
theorem dX4_fetch_0 : decode cX4_fetch 0 = .ok (.iload_n 1, 1) := by decide +kernel
theorem dX4_fetch_1 : decode cX4_fetch 1 = .ok (.invokestatic 82, 3) := by decide +kernel
theorem dX4_fetch_4 : decode cX4_fetch 4 = .ok (.ifCond .eq 10, 3) := by decide +kernel
theorem dX4_fetch_7 : decode cX4_fetch 7 = .ok (.iload_n 2, 1) := by decide +kernel
theorem dX4_fetch_8 : decode cX4_fetch 8 = .ok (.invokestatic 85, 3) := by decide +kernel
theorem dX4_fetch_11 : decode cX4_fetch 11 = .ok (.ifCond .ne 5, 3) := by decide +kernel
theorem dX4_fetch_14 : decode cX4_fetch 14 = .ok (.iconst (-1), 1) := by decide +kernel
theorem dX4_fetch_15 : decode cX4_fetch 15 = .ok (.ireturn, 1) := by decide +kernel
theorem dX4_fetch_16 : decode cX4_fetch 16 = .ok (.aload_n 0, 1) := by decide +kernel
theorem dX4_fetch_17 : decode cX4_fetch 17 = .ok (.getfield 18, 3) := by decide +kernel
theorem dX4_fetch_20 : decode cX4_fetch 20 = .ok (.iconst 0, 1) := by decide +kernel
theorem dX4_fetch_21 : decode cX4_fetch 21 = .ok (.aaload, 1) := by decide +kernel
theorem dX4_fetch_22 : decode cX4_fetch 22 = .ok (.astore_n 3, 1) := by decide +kernel
theorem dX4_fetch_23 : decode cX4_fetch 23 = .ok (.aload_n 0, 1) := by decide +kernel
theorem dX4_fetch_24 : decode cX4_fetch 24 = .ok (.getfield 18, 3) := by decide +kernel
theorem dX4_fetch_27 : decode cX4_fetch 27 = .ok (.iload_n 1, 1) := by decide +kernel
theorem dX4_fetch_28 : decode cX4_fetch 28 = .ok (.aaload, 1) := by decide +kernel
theorem dX4_fetch_29 : decode cX4_fetch 29 = .ok (.astore 4, 2) := by decide +kernel
theorem dX4_fetch_31 : decode cX4_fetch 31 = .ok (.aload 4, 2) := by decide +kernel
theorem dX4_fetch_33 : decode cX4_fetch 33 = .ok (.invokevirtual 48, 3) := by decide +kernel
theorem dX4_fetch_36 : decode cX4_fetch 36 = .ok (.ifCond .eq 10, 3) := by decide +kernel
theorem dX4_fetch_39 : decode cX4_fetch 39 = .ok (.aload_n 3, 1) := by decide +kernel
theorem dX4_fetch_40 : decode cX4_fetch 40 = .ok (.invokevirtual 48, 3) := by decide +kernel
theorem dX4_fetch_43 : decode cX4_fetch 43 = .ok (.ifCond .ne 6, 3) := by decide +kernel
theorem dX4_fetch_46 : decode cX4_fetch 46 = .ok (.bipush (-2), 2) := by decide +kernel
theorem dX4_fetch_48 : decode cX4_fetch 48 = .ok (.ireturn, 1) := by decide +kernel
theorem dX4_fetch_49 : decode cX4_fetch 49 = .ok (.aload_n 3, 1) := by decide +kernel
theorem dX4_fetch_50 : decode cX4_fetch 50 = .ok (.iload_n 2, 1) := by decide +kernel
theorem dX4_fetch_51 : decode cX4_fetch 51 = .ok (.invokevirtual 88, 3) := by decide +kernel
theorem dX4_fetch_54 : decode cX4_fetch 54 = .ok (.aload 4, 2) := by decide +kernel
theorem dX4_fetch_56 : decode cX4_fetch 56 = .ok (.invokevirtual 92, 3) := by decide +kernel
theorem dX4_fetch_59 : decode cX4_fetch 59 = .ok (.ldc2_w 96, 3) := by decide +kernel
theorem dX4_fetch_62 : decode cX4_fetch 62 = .ok (.lxor, 1) := by decide +kernel
theorem dX4_fetch_63 : decode cX4_fetch 63 = .ok (.land, 1) := by decide +kernel
theorem dX4_fetch_64 : decode cX4_fetch 64 = .ok (.lstore 5, 2) := by decide +kernel
theorem dX4_fetch_66 : decode cX4_fetch 66 = .ok (.aload_n 0, 1) := by decide +kernel
theorem dX4_fetch_67 : decode cX4_fetch 67 = .ok (.getfield 10, 3) := by decide +kernel
theorem dX4_fetch_70 : decode cX4_fetch 70 = .ok (.aload 4, 2) := by decide +kernel
theorem dX4_fetch_72 : decode cX4_fetch 72 = .ok (.sipush 255, 3) := by decide +kernel
theorem dX4_fetch_75 : decode cX4_fetch 75 = .ok (.invokevirtual 88, 3) := by decide +kernel
theorem dX4_fetch_78 : decode cX4_fetch 78 = .ok (.invokevirtual 98, 3) := by decide +kernel
theorem dX4_fetch_81 : decode cX4_fetch 81 = .ok (.aload_n 0, 1) := by decide +kernel
theorem dX4_fetch_82 : decode cX4_fetch 82 = .ok (.getfield 10, 3) := by decide +kernel
theorem dX4_fetch_85 : decode cX4_fetch 85 = .ok (.iconst 2, 1) := by decide +kernel
theorem dX4_fetch_86 : decode cX4_fetch 86 = .ok (.invokevirtual 102, 3) := by decide +kernel
theorem dX4_fetch_89 : decode cX4_fetch 89 = .ok (.land, 1) := by decide +kernel
theorem dX4_fetch_90 : decode cX4_fetch 90 = .ok (.lstore 7, 2) := by decide +kernel
theorem dX4_fetch_92 : decode cX4_fetch 92 = .ok (.aload_n 0, 1) := by decide +kernel
theorem dX4_fetch_93 : decode cX4_fetch 93 = .ok (.getfield 26, 3) := by decide +kernel
theorem dX4_fetch_96 : decode cX4_fetch 96 = .ok (.aload_n 0, 1) := by decide +kernel
theorem dX4_fetch_97 : decode cX4_fetch 97 = .ok (.getfield 10, 3) := by decide +kernel
theorem dX4_fetch_100 : decode cX4_fetch 100 = .ok (.lload 5, 2) := by decide +kernel
theorem dX4_fetch_102 : decode cX4_fetch 102 = .ok (.lload 7, 2) := by decide +kernel
theorem dX4_fetch_104 : decode cX4_fetch 104 = .ok (.aload_n 3, 1) := by decide +kernel
theorem dX4_fetch_105 : decode cX4_fetch 105 = .ok (.invokevirtual 92, 3) := by decide +kernel
theorem dX4_fetch_108 : decode cX4_fetch 108 = .ok (.invokevirtual 105, 3) := by decide +kernel
theorem dX4_fetch_111 : decode cX4_fetch 111 = .ok (.lstore 9, 2) := by decide +kernel
theorem dX4_fetch_113 : decode cX4_fetch 113 = .ok (.aload_n 0, 1) := by decide +kernel
theorem dX4_fetch_114 : decode cX4_fetch 114 = .ok (.getfield 33, 3) := by decide +kernel
theorem dX4_fetch_117 : decode cX4_fetch 117 = .ok (.aload_n 0, 1) := by decide +kernel
theorem dX4_fetch_118 : decode cX4_fetch 118 = .ok (.getfield 10, 3) := by decide +kernel
theorem dX4_fetch_121 : decode cX4_fetch 121 = .ok (.aload_n 0, 1) := by decide +kernel
theorem dX4_fetch_122 : decode cX4_fetch 122 = .ok (.getfield 10, 3) := by decide +kernel
theorem dX4_fetch_125 : decode cX4_fetch 125 = .ok (.lload 5, 2) := by decide +kernel
theorem dX4_fetch_127 : decode cX4_fetch 127 = .ok (.invokevirtual 98, 3) := by decide +kernel
theorem dX4_fetch_130 : decode cX4_fetch 130 = .ok (.aload_n 0, 1) := by decide +kernel
theorem dX4_fetch_131 : decode cX4_fetch 131 = .ok (.getfield 10, 3) := by decide +kernel
theorem dX4_fetch_134 : decode cX4_fetch 134 = .ok (.lload 9, 2) := by decide +kernel
theorem dX4_fetch_136 : decode cX4_fetch 136 = .ok (.invokevirtual 98, 3) := by decide +kernel
theorem dX4_fetch_139 : decode cX4_fetch 139 = .ok (.ldc2_w 96, 3) := by decide +kernel
theorem dX4_fetch_142 : decode cX4_fetch 142 = .ok (.lxor, 1) := by decide +kernel
theorem dX4_fetch_143 : decode cX4_fetch 143 = .ok (.land, 1) := by decide +kernel
theorem dX4_fetch_144 : decode cX4_fetch 144 = .ok (.invokevirtual 109, 3) := by decide +kernel
theorem dX4_fetch_147 : decode cX4_fetch 147 = .ok (.aload 4, 2) := by decide +kernel
theorem dX4_fetch_149 : decode cX4_fetch 149 = .ok (.aload_n 0, 1) := by decide +kernel
theorem dX4_fetch_150 : decode cX4_fetch 150 = .ok (.getfield 33, 3) := by decide +kernel
theorem dX4_fetch_153 : decode cX4_fetch 153 = .ok (.invokevirtual 113, 3) := by decide +kernel
theorem dX4_fetch_156 : decode cX4_fetch 156 = .ok (.invokevirtual 116, 3) := by decide +kernel
theorem dX4_fetch_159 : decode cX4_fetch 159 = .ok (.ifCond .ne 6, 3) := by decide +kernel
theorem dX4_fetch_162 : decode cX4_fetch 162 = .ok (.bipush (-2), 2) := by decide +kernel
theorem dX4_fetch_164 : decode cX4_fetch 164 = .ok (.ireturn, 1) := by decide +kernel
theorem dX4_fetch_165 : decode cX4_fetch 165 = .ok (.aload_n 0, 1) := by decide +kernel
theorem dX4_fetch_166 : decode cX4_fetch 166 = .ok (.aload_n 3, 1) := by decide +kernel
theorem dX4_fetch_167 : decode cX4_fetch 167 = .ok (.iload_n 2, 1) := by decide +kernel
theorem dX4_fetch_168 : decode cX4_fetch 168 = .ok (.iconst 4, 1) := by decide +kernel
theorem dX4_fetch_169 : decode cX4_fetch 169 = .ok (.invokevirtual 120, 3) := by decide +kernel
theorem dX4_fetch_172 : decode cX4_fetch 172 = .ok (.aload 4, 2) := by decide +kernel
theorem dX4_fetch_174 : decode cX4_fetch 174 = .ok (.aload_n 0, 1) := by decide +kernel
theorem dX4_fetch_175 : decode cX4_fetch 175 = .ok (.getfield 41, 3) := by decide +kernel
theorem dX4_fetch_178 : decode cX4_fetch 178 = .ok (.invokevirtual 78, 3) := by decide +kernel
theorem dX4_fetch_181 : decode cX4_fetch 181 = .ok (.ifCond .eq 13, 3) := by decide +kernel
theorem dX4_fetch_184 : decode cX4_fetch 184 = .ok (.aload_n 0, 1) := by decide +kernel
theorem dX4_fetch_185 : decode cX4_fetch 185 = .ok (.getfield 33, 3) := by decide +kernel
theorem dX4_fetch_188 : decode cX4_fetch 188 = .ok (.invokevirtual 124, 3) := by decide +kernel
theorem dX4_fetch_191 : decode cX4_fetch 191 = .ok (.goto 5, 3) := by decide +kernel
theorem dX4_fetch_194 : decode cX4_fetch 194 = .ok (.bipush (-2), 2) := by decide +kernel
theorem dX4_fetch_196 : decode cX4_fetch 196 = .ok (.ireturn, 1) := by decide +kernel
theorem dX4_push_0 : decode cX4_push 0 = .ok (.iload_n 1, 1) := by decide +kernel
theorem dX4_push_1 : decode cX4_push 1 = .ok (.invokestatic 82, 3) := by decide +kernel
theorem dX4_push_4 : decode cX4_push 4 = .ok (.ifCond .eq 10, 3) := by decide +kernel
theorem dX4_push_7 : decode cX4_push 7 = .ok (.iload_n 2, 1) := by decide +kernel
theorem dX4_push_8 : decode cX4_push 8 = .ok (.invokestatic 85, 3) := by decide +kernel
theorem dX4_push_11 : decode cX4_push 11 = .ok (.ifCond .ne 5, 3) := by decide +kernel
theorem dX4_push_14 : decode cX4_push 14 = .ok (.iconst (-1), 1) := by decide +kernel
theorem dX4_push_15 : decode cX4_push 15 = .ok (.ireturn, 1) := by decide +kernel
theorem dX4_push_16 : decode cX4_push 16 = .ok (.aload_n 0, 1) := by decide +kernel
theorem dX4_push_17 : decode cX4_push 17 = .ok (.getfield 18, 3) := by decide +kernel
theorem dX4_push_20 : decode cX4_push 20 = .ok (.iconst 0, 1) := by decide +kernel
theorem dX4_push_21 : decode cX4_push 21 = .ok (.aaload, 1) := by decide +kernel
theorem dX4_push_22 : decode cX4_push 22 = .ok (.astore_n 3, 1) := by decide +kernel
theorem dX4_push_23 : decode cX4_push 23 = .ok (.aload_n 0, 1) := by decide +kernel
theorem dX4_push_24 : decode cX4_push 24 = .ok (.getfield 18, 3) := by decide +kernel
theorem dX4_push_27 : decode cX4_push 27 = .ok (.iload_n 1, 1) := by decide +kernel
theorem dX4_push_28 : decode cX4_push 28 = .ok (.aaload, 1) := by decide +kernel
theorem dX4_push_29 : decode cX4_push 29 = .ok (.astore 4, 2) := by decide +kernel
theorem dX4_push_31 : decode cX4_push 31 = .ok (.aload 4, 2) := by decide +kernel
theorem dX4_push_33 : decode cX4_push 33 = .ok (.invokevirtual 48, 3) := by decide +kernel
theorem dX4_push_36 : decode cX4_push 36 = .ok (.ifCond .eq 10, 3) := by decide +kernel
theorem dX4_push_39 : decode cX4_push 39 = .ok (.aload_n 3, 1) := by decide +kernel
theorem dX4_push_40 : decode cX4_push 40 = .ok (.invokevirtual 48, 3) := by decide +kernel
theorem dX4_push_43 : decode cX4_push 43 = .ok (.ifCond .ne 6, 3) := by decide +kernel
theorem dX4_push_46 : decode cX4_push 46 = .ok (.bipush (-2), 2) := by decide +kernel
theorem dX4_push_48 : decode cX4_push 48 = .ok (.ireturn, 1) := by decide +kernel
theorem dX4_push_49 : decode cX4_push 49 = .ok (.aload 4, 2) := by decide +kernel
theorem dX4_push_51 : decode cX4_push 51 = .ok (.iload_n 2, 1) := by decide +kernel
theorem dX4_push_52 : decode cX4_push 52 = .ok (.invokevirtual 128, 3) := by decide +kernel
theorem dX4_push_55 : decode cX4_push 55 = .ok (.ifCond .ne 5, 3) := by decide +kernel
theorem dX4_push_58 : decode cX4_push 58 = .ok (.iconst (-1), 1) := by decide +kernel
theorem dX4_push_59 : decode cX4_push 59 = .ok (.ireturn, 1) := by decide +kernel
theorem dX4_push_60 : decode cX4_push 60 = .ok (.aload_n 0, 1) := by decide +kernel
theorem dX4_push_61 : decode cX4_push 61 = .ok (.aload 4, 2) := by decide +kernel
theorem dX4_push_63 : decode cX4_push 63 = .ok (.aload_n 3, 1) := by decide +kernel
theorem dX4_push_64 : decode cX4_push 64 = .ok (.iload_n 2, 1) := by decide +kernel
theorem dX4_push_65 : decode cX4_push 65 = .ok (.invokevirtual 131, 3) := by decide +kernel
theorem dX4_push_68 : decode cX4_push 68 = .ok (.ifCond .ne 17, 3) := by decide +kernel
theorem dX4_push_71 : decode cX4_push 71 = .ok (.aload_n 0, 1) := by decide +kernel
theorem dX4_push_72 : decode cX4_push 72 = .ok (.getfield 33, 3) := by decide +kernel
theorem dX4_push_75 : decode cX4_push 75 = .ok (.aload_n 0, 1) := by decide +kernel
theorem dX4_push_76 : decode cX4_push 76 = .ok (.getfield 10, 3) := by decide +kernel
theorem dX4_push_79 : decode cX4_push 79 = .ok (.lconst 0, 1) := by decide +kernel
theorem dX4_push_80 : decode cX4_push 80 = .ok (.invokevirtual 109, 3) := by decide +kernel
theorem dX4_push_83 : decode cX4_push 83 = .ok (.iconst 0, 1) := by decide +kernel
theorem dX4_push_84 : decode cX4_push 84 = .ok (.ireturn, 1) := by decide +kernel
theorem dX4_push_85 : decode cX4_push 85 = .ok (.aload_n 3, 1) := by decide +kernel
theorem dX4_push_86 : decode cX4_push 86 = .ok (.bipush 15, 2) := by decide +kernel
theorem dX4_push_88 : decode cX4_push 88 = .ok (.invokevirtual 88, 3) := by decide +kernel
theorem dX4_push_91 : decode cX4_push 91 = .ok (.aload 4, 2) := by decide +kernel
theorem dX4_push_93 : decode cX4_push 93 = .ok (.invokevirtual 92, 3) := by decide +kernel
theorem dX4_push_96 : decode cX4_push 96 = .ok (.land, 1) := by decide +kernel
theorem dX4_push_97 : decode cX4_push 97 = .ok (.lstore 5, 2) := by decide +kernel
theorem dX4_push_99 : decode cX4_push 99 = .ok (.aload_n 0, 1) := by decide +kernel
theorem dX4_push_100 : decode cX4_push 100 = .ok (.getfield 33, 3) := by decide +kernel
theorem dX4_push_103 : decode cX4_push 103 = .ok (.aload_n 0, 1) := by decide +kernel
theorem dX4_push_104 : decode cX4_push 104 = .ok (.getfield 10, 3) := by decide +kernel
theorem dX4_push_107 : decode cX4_push 107 = .ok (.aload_n 0, 1) := by decide +kernel
theorem dX4_push_108 : decode cX4_push 108 = .ok (.getfield 10, 3) := by decide +kernel
theorem dX4_push_111 : decode cX4_push 111 = .ok (.aload 4, 2) := by decide +kernel
theorem dX4_push_113 : decode cX4_push 113 = .ok (.iload_n 2, 1) := by decide +kernel
theorem dX4_push_114 : decode cX4_push 114 = .ok (.invokevirtual 88, 3) := by decide +kernel
theorem dX4_push_117 : decode cX4_push 117 = .ok (.invokevirtual 98, 3) := by decide +kernel
theorem dX4_push_120 : decode cX4_push 120 = .ok (.aload_n 0, 1) := by decide +kernel
theorem dX4_push_121 : decode cX4_push 121 = .ok (.getfield 10, 3) := by decide +kernel
theorem dX4_push_124 : decode cX4_push 124 = .ok (.lload 5, 2) := by decide +kernel
theorem dX4_push_126 : decode cX4_push 126 = .ok (.invokevirtual 98, 3) := by decide +kernel
theorem dX4_push_129 : decode cX4_push 129 = .ok (.ldc2_w 96, 3) := by decide +kernel
theorem dX4_push_132 : decode cX4_push 132 = .ok (.lxor, 1) := by decide +kernel
theorem dX4_push_133 : decode cX4_push 133 = .ok (.land, 1) := by decide +kernel
theorem dX4_push_134 : decode cX4_push 134 = .ok (.invokevirtual 109, 3) := by decide +kernel
theorem dX4_push_137 : decode cX4_push 137 = .ok (.aload_n 0, 1) := by decide +kernel
theorem dX4_push_138 : decode cX4_push 138 = .ok (.aload 4, 2) := by decide +kernel
theorem dX4_push_140 : decode cX4_push 140 = .ok (.aload_n 3, 1) := by decide +kernel
theorem dX4_push_141 : decode cX4_push 141 = .ok (.iload_n 2, 1) := by decide +kernel
theorem dX4_push_142 : decode cX4_push 142 = .ok (.invokevirtual 135, 3) := by decide +kernel
theorem dX4_push_145 : decode cX4_push 145 = .ok (.ifCond .eq 7, 3) := by decide +kernel
theorem dX4_push_148 : decode cX4_push 148 = .ok (.iconst 1, 1) := by decide +kernel
theorem dX4_push_149 : decode cX4_push 149 = .ok (.goto 5, 3) := by decide +kernel
theorem dX4_push_152 : decode cX4_push 152 = .ok (.bipush (-2), 2) := by decide +kernel
theorem dX4_push_154 : decode cX4_push 154 = .ok (.ireturn, 1) := by decide +kernel
theorem dX4_arm_0 : decode cX4_arm 0 = .ok (.iload_n 1, 1) := by decide +kernel
theorem dX4_arm_1 : decode cX4_arm 1 = .ok (.invokestatic 44, 3) := by decide +kernel
theorem dX4_arm_4 : decode cX4_arm 4 = .ok (.ifCond .eq 14, 3) := by decide +kernel
theorem dX4_arm_7 : decode cX4_arm 7 = .ok (.iload_n 2, 1) := by decide +kernel
theorem dX4_arm_8 : decode cX4_arm 8 = .ok (.iconst (-1), 1) := by decide +kernel
theorem dX4_arm_9 : decode cX4_arm 9 = .ok (.if_icmp .lt 9, 3) := by decide +kernel
theorem dX4_arm_12 : decode cX4_arm 12 = .ok (.iload_n 2, 1) := by decide +kernel
theorem dX4_arm_13 : decode cX4_arm 13 = .ok (.bipush 100, 2) := by decide +kernel
theorem dX4_arm_15 : decode cX4_arm 15 = .ok (.if_icmp .le 5, 3) := by decide +kernel
theorem dX4_arm_18 : decode cX4_arm 18 = .ok (.iconst 0, 1) := by decide +kernel
theorem dX4_arm_19 : decode cX4_arm 19 = .ok (.ireturn, 1) := by decide +kernel
theorem dX4_arm_20 : decode cX4_arm 20 = .ok (.aload_n 0, 1) := by decide +kernel
theorem dX4_arm_21 : decode cX4_arm 21 = .ok (.getfield 18, 3) := by decide +kernel
theorem dX4_arm_24 : decode cX4_arm 24 = .ok (.iload_n 1, 1) := by decide +kernel
theorem dX4_arm_25 : decode cX4_arm 25 = .ok (.aaload, 1) := by decide +kernel
theorem dX4_arm_26 : decode cX4_arm 26 = .ok (.iload_n 2, 1) := by decide +kernel
theorem dX4_arm_27 : decode cX4_arm 27 = .ok (.invokevirtual 138, 3) := by decide +kernel
theorem dX4_arm_30 : decode cX4_arm 30 = .ok (.iconst 1, 1) := by decide +kernel
theorem dX4_arm_31 : decode cX4_arm 31 = .ok (.ireturn, 1) := by decide +kernel
theorem dX4_recover_0 : decode cX4_recover 0 = .ok (.iload_n 1, 1) := by decide +kernel
theorem dX4_recover_1 : decode cX4_recover 1 = .ok (.invokestatic 44, 3) := by decide +kernel
theorem dX4_recover_4 : decode cX4_recover 4 = .ok (.ifCond .eq 15, 3) := by decide +kernel
theorem dX4_recover_7 : decode cX4_recover 7 = .ok (.aload_n 0, 1) := by decide +kernel
theorem dX4_recover_8 : decode cX4_recover 8 = .ok (.getfield 18, 3) := by decide +kernel
theorem dX4_recover_11 : decode cX4_recover 11 = .ok (.iload_n 1, 1) := by decide +kernel
theorem dX4_recover_12 : decode cX4_recover 12 = .ok (.aaload, 1) := by decide +kernel
theorem dX4_recover_13 : decode cX4_recover 13 = .ok (.invokevirtual 48, 3) := by decide +kernel
theorem dX4_recover_16 : decode cX4_recover 16 = .ok (.ifCond .eq 5, 3) := by decide +kernel
theorem dX4_recover_19 : decode cX4_recover 19 = .ok (.iconst (-1), 1) := by decide +kernel
theorem dX4_recover_20 : decode cX4_recover 20 = .ok (.ireturn, 1) := by decide +kernel
theorem dX4_recover_21 : decode cX4_recover 21 = .ok (.aload_n 0, 1) := by decide +kernel
theorem dX4_recover_22 : decode cX4_recover 22 = .ok (.getfield 18, 3) := by decide +kernel
theorem dX4_recover_25 : decode cX4_recover 25 = .ok (.iload_n 1, 1) := by decide +kernel
theorem dX4_recover_26 : decode cX4_recover 26 = .ok (.aaload, 1) := by decide +kernel
theorem dX4_recover_27 : decode cX4_recover 27 = .ok (.invokevirtual 142, 3) := by decide +kernel
theorem dX4_recover_30 : decode cX4_recover 30 = .ok (.ireturn, 1) := by decide +kernel
theorem dX4_collect_0 : decode cX4_collect 0 = .ok (.iload_n 1, 1) := by decide +kernel
theorem dX4_collect_1 : decode cX4_collect 1 = .ok (.invokestatic 44, 3) := by decide +kernel
theorem dX4_collect_4 : decode cX4_collect 4 = .ok (.ifCond .ne 5, 3) := by decide +kernel
theorem dX4_collect_7 : decode cX4_collect 7 = .ok (.iconst (-1), 1) := by decide +kernel
theorem dX4_collect_8 : decode cX4_collect 8 = .ok (.ireturn, 1) := by decide +kernel
theorem dX4_collect_9 : decode cX4_collect 9 = .ok (.aload_n 0, 1) := by decide +kernel
theorem dX4_collect_10 : decode cX4_collect 10 = .ok (.getfield 18, 3) := by decide +kernel
theorem dX4_collect_13 : decode cX4_collect 13 = .ok (.iload_n 1, 1) := by decide +kernel
theorem dX4_collect_14 : decode cX4_collect 14 = .ok (.aaload, 1) := by decide +kernel
theorem dX4_collect_15 : decode cX4_collect 15 = .ok (.astore_n 2, 1) := by decide +kernel
theorem dX4_collect_16 : decode cX4_collect 16 = .ok (.aload_n 2, 1) := by decide +kernel
theorem dX4_collect_17 : decode cX4_collect 17 = .ok (.invokevirtual 48, 3) := by decide +kernel
theorem dX4_collect_20 : decode cX4_collect 20 = .ok (.ifCond .ne 6, 3) := by decide +kernel
theorem dX4_collect_23 : decode cX4_collect 23 = .ok (.bipush (-2), 2) := by decide +kernel
theorem dX4_collect_25 : decode cX4_collect 25 = .ok (.ireturn, 1) := by decide +kernel
theorem dX4_collect_26 : decode cX4_collect 26 = .ok (.aload_n 2, 1) := by decide +kernel
theorem dX4_collect_27 : decode cX4_collect 27 = .ok (.aload_n 0, 1) := by decide +kernel
theorem dX4_collect_28 : decode cX4_collect 28 = .ok (.getfield 10, 3) := by decide +kernel
theorem dX4_collect_31 : decode cX4_collect 31 = .ok (.aload_n 2, 1) := by decide +kernel
theorem dX4_collect_32 : decode cX4_collect 32 = .ok (.sipush 255, 3) := by decide +kernel
theorem dX4_collect_35 : decode cX4_collect 35 = .ok (.invokevirtual 88, 3) := by decide +kernel
theorem dX4_collect_38 : decode cX4_collect 38 = .ok (.invokevirtual 98, 3) := by decide +kernel
theorem dX4_collect_41 : decode cX4_collect 41 = .ok (.invokevirtual 145, 3) := by decide +kernel
theorem dX4_collect_44 : decode cX4_collect 44 = .ok (.ireturn, 1) := by decide +kernel
theorem dX4_up_0 : decode cX4_up 0 = .ok (.iload_n 1, 1) := by decide +kernel
theorem dX4_up_1 : decode cX4_up 1 = .ok (.invokestatic 44, 3) := by decide +kernel
theorem dX4_up_4 : decode cX4_up 4 = .ok (.ifCond .eq 19, 3) := by decide +kernel
theorem dX4_up_7 : decode cX4_up 7 = .ok (.aload_n 0, 1) := by decide +kernel
theorem dX4_up_8 : decode cX4_up 8 = .ok (.getfield 18, 3) := by decide +kernel
theorem dX4_up_11 : decode cX4_up 11 = .ok (.iload_n 1, 1) := by decide +kernel
theorem dX4_up_12 : decode cX4_up 12 = .ok (.aaload, 1) := by decide +kernel
theorem dX4_up_13 : decode cX4_up 13 = .ok (.invokevirtual 48, 3) := by decide +kernel
theorem dX4_up_16 : decode cX4_up 16 = .ok (.ifCond .eq 7, 3) := by decide +kernel
theorem dX4_up_19 : decode cX4_up 19 = .ok (.iconst 1, 1) := by decide +kernel
theorem dX4_up_20 : decode cX4_up 20 = .ok (.goto 4, 3) := by decide +kernel
theorem dX4_up_23 : decode cX4_up 23 = .ok (.iconst 0, 1) := by decide +kernel
theorem dX4_up_24 : decode cX4_up 24 = .ok (.ireturn, 1) := by decide +kernel
theorem dX4_reference_0 : decode cX4_reference 0 = .ok (.iload_n 1, 1) := by decide +kernel
theorem dX4_reference_1 : decode cX4_reference 1 = .ok (.invokestatic 44, 3) := by decide +kernel
theorem dX4_reference_4 : decode cX4_reference 4 = .ok (.ifCond .eq 13, 3) := by decide +kernel
theorem dX4_reference_7 : decode cX4_reference 7 = .ok (.iload_n 2, 1) := by decide +kernel
theorem dX4_reference_8 : decode cX4_reference 8 = .ok (.ifCond .lt 9, 3) := by decide +kernel
theorem dX4_reference_11 : decode cX4_reference 11 = .ok (.iload_n 2, 1) := by decide +kernel
theorem dX4_reference_12 : decode cX4_reference 12 = .ok (.bipush 8, 2) := by decide +kernel
theorem dX4_reference_14 : decode cX4_reference 14 = .ok (.if_icmp .lt 5, 3) := by decide +kernel
theorem dX4_reference_17 : decode cX4_reference 17 = .ok (.iconst (-1), 1) := by decide +kernel
theorem dX4_reference_18 : decode cX4_reference 18 = .ok (.ireturn, 1) := by decide +kernel
theorem dX4_reference_19 : decode cX4_reference 19 = .ok (.aload_n 0, 1) := by decide +kernel
theorem dX4_reference_20 : decode cX4_reference 20 = .ok (.getfield 18, 3) := by decide +kernel
theorem dX4_reference_23 : decode cX4_reference 23 = .ok (.iload_n 1, 1) := by decide +kernel
theorem dX4_reference_24 : decode cX4_reference 24 = .ok (.aaload, 1) := by decide +kernel
theorem dX4_reference_25 : decode cX4_reference 25 = .ok (.invokevirtual 48, 3) := by decide +kernel
theorem dX4_reference_28 : decode cX4_reference 28 = .ok (.ifCond .ne 6, 3) := by decide +kernel
theorem dX4_reference_31 : decode cX4_reference 31 = .ok (.bipush (-2), 2) := by decide +kernel
theorem dX4_reference_33 : decode cX4_reference 33 = .ok (.ireturn, 1) := by decide +kernel
theorem dX4_reference_34 : decode cX4_reference 34 = .ok (.aload_n 0, 1) := by decide +kernel
theorem dX4_reference_35 : decode cX4_reference 35 = .ok (.getfield 18, 3) := by decide +kernel
theorem dX4_reference_38 : decode cX4_reference 38 = .ok (.iload_n 1, 1) := by decide +kernel
theorem dX4_reference_39 : decode cX4_reference 39 = .ok (.aaload, 1) := by decide +kernel
theorem dX4_reference_40 : decode cX4_reference 40 = .ok (.iload_n 2, 1) := by decide +kernel
theorem dX4_reference_41 : decode cX4_reference 41 = .ok (.invokevirtual 63, 3) := by decide +kernel
theorem dX4_reference_44 : decode cX4_reference 44 = .ok (.istore_n 3, 1) := by decide +kernel
theorem dX4_reference_45 : decode cX4_reference 45 = .ok (.iload_n 3, 1) := by decide +kernel
theorem dX4_reference_46 : decode cX4_reference 46 = .ok (.iconst (-1), 1) := by decide +kernel
theorem dX4_reference_47 : decode cX4_reference 47 = .ok (.if_icmp .ne 8, 3) := by decide +kernel
theorem dX4_reference_50 : decode cX4_reference 50 = .ok (.bipush (-4), 2) := by decide +kernel
theorem dX4_reference_52 : decode cX4_reference 52 = .ok (.goto 4, 3) := by decide +kernel
theorem dX4_reference_55 : decode cX4_reference 55 = .ok (.iload_n 3, 1) := by decide +kernel
theorem dX4_reference_56 : decode cX4_reference 56 = .ok (.ireturn, 1) := by decide +kernel
theorem dX4_holds_0 : decode cX4_holds 0 = .ok (.iload_n 1, 1) := by decide +kernel
theorem dX4_holds_1 : decode cX4_holds 1 = .ok (.invokestatic 44, 3) := by decide +kernel
theorem dX4_holds_4 : decode cX4_holds 4 = .ok (.ifCond .ne 5, 3) := by decide +kernel
theorem dX4_holds_7 : decode cX4_holds 7 = .ok (.iconst (-1), 1) := by decide +kernel
theorem dX4_holds_8 : decode cX4_holds 8 = .ok (.ireturn, 1) := by decide +kernel
theorem dX4_holds_9 : decode cX4_holds 9 = .ok (.aload_n 0, 1) := by decide +kernel
theorem dX4_holds_10 : decode cX4_holds 10 = .ok (.getfield 18, 3) := by decide +kernel
theorem dX4_holds_13 : decode cX4_holds 13 = .ok (.iload_n 1, 1) := by decide +kernel
theorem dX4_holds_14 : decode cX4_holds 14 = .ok (.aaload, 1) := by decide +kernel
theorem dX4_holds_15 : decode cX4_holds 15 = .ok (.invokevirtual 48, 3) := by decide +kernel
theorem dX4_holds_18 : decode cX4_holds 18 = .ok (.ifCond .ne 6, 3) := by decide +kernel
theorem dX4_holds_21 : decode cX4_holds 21 = .ok (.bipush (-2), 2) := by decide +kernel
theorem dX4_holds_23 : decode cX4_holds 23 = .ok (.ireturn, 1) := by decide +kernel
theorem dX4_holds_24 : decode cX4_holds 24 = .ok (.aload_n 0, 1) := by decide +kernel
theorem dX4_holds_25 : decode cX4_holds 25 = .ok (.getfield 18, 3) := by decide +kernel
theorem dX4_holds_28 : decode cX4_holds 28 = .ok (.iload_n 1, 1) := by decide +kernel
theorem dX4_holds_29 : decode cX4_holds 29 = .ok (.aaload, 1) := by decide +kernel
theorem dX4_holds_30 : decode cX4_holds 30 = .ok (.invokevirtual 92, 3) := by decide +kernel
theorem dX4_holds_33 : decode cX4_holds 33 = .ok (.iload_n 2, 1) := by decide +kernel
theorem dX4_holds_34 : decode cX4_holds 34 = .ok (.invokestatic 149, 3) := by decide +kernel
theorem dX4_holds_37 : decode cX4_holds 37 = .ok (.ifCond .eq 7, 3) := by decide +kernel
theorem dX4_holds_40 : decode cX4_holds 40 = .ok (.iconst 1, 1) := by decide +kernel
theorem dX4_holds_41 : decode cX4_holds 41 = .ok (.goto 4, 3) := by decide +kernel
theorem dX4_holds_44 : decode cX4_holds 44 = .ok (.iconst 0, 1) := by decide +kernel
theorem dX4_holds_45 : decode cX4_holds 45 = .ok (.ireturn, 1) := by decide +kernel
theorem dX4_count_0 : decode cX4_count 0 = .ok (.iload_n 1, 1) := by decide +kernel
theorem dX4_count_1 : decode cX4_count 1 = .ok (.invokestatic 44, 3) := by decide +kernel
theorem dX4_count_4 : decode cX4_count 4 = .ok (.ifCond .ne 5, 3) := by decide +kernel
theorem dX4_count_7 : decode cX4_count 7 = .ok (.iconst (-1), 1) := by decide +kernel
theorem dX4_count_8 : decode cX4_count 8 = .ok (.ireturn, 1) := by decide +kernel
theorem dX4_count_9 : decode cX4_count 9 = .ok (.aload_n 0, 1) := by decide +kernel
theorem dX4_count_10 : decode cX4_count 10 = .ok (.getfield 18, 3) := by decide +kernel
theorem dX4_count_13 : decode cX4_count 13 = .ok (.iload_n 1, 1) := by decide +kernel
theorem dX4_count_14 : decode cX4_count 14 = .ok (.aaload, 1) := by decide +kernel
theorem dX4_count_15 : decode cX4_count 15 = .ok (.invokevirtual 48, 3) := by decide +kernel
theorem dX4_count_18 : decode cX4_count 18 = .ok (.ifCond .ne 6, 3) := by decide +kernel
theorem dX4_count_21 : decode cX4_count 21 = .ok (.bipush (-2), 2) := by decide +kernel
theorem dX4_count_23 : decode cX4_count 23 = .ok (.ireturn, 1) := by decide +kernel
theorem dX4_count_24 : decode cX4_count 24 = .ok (.aload_n 0, 1) := by decide +kernel
theorem dX4_count_25 : decode cX4_count 25 = .ok (.getfield 18, 3) := by decide +kernel
theorem dX4_count_28 : decode cX4_count 28 = .ok (.iload_n 1, 1) := by decide +kernel
theorem dX4_count_29 : decode cX4_count 29 = .ok (.aaload, 1) := by decide +kernel
theorem dX4_count_30 : decode cX4_count 30 = .ok (.invokevirtual 92, 3) := by decide +kernel
theorem dX4_count_33 : decode cX4_count 33 = .ok (.invokestatic 153, 3) := by decide +kernel
theorem dX4_count_36 : decode cX4_count 36 = .ok (.ireturn, 1) := by decide +kernel
theorem dX4_talk_0 : decode cX4_talk 0 = .ok (.iload_n 1, 1) := by decide +kernel
theorem dX4_talk_1 : decode cX4_talk 1 = .ok (.tableswitch 51 0 2 #[27, 35, 43], 27) := by decide +kernel
theorem dX4_talk_28 : decode cX4_talk 28 = .ok (.aload_n 0, 1) := by decide +kernel
theorem dX4_talk_29 : decode cX4_talk 29 = .ok (.getfield 26, 3) := by decide +kernel
theorem dX4_talk_32 : decode cX4_talk 32 = .ok (.invokevirtual 158, 3) := by decide +kernel
theorem dX4_talk_35 : decode cX4_talk 35 = .ok (.ireturn, 1) := by decide +kernel
theorem dX4_talk_36 : decode cX4_talk 36 = .ok (.aload_n 0, 1) := by decide +kernel
theorem dX4_talk_37 : decode cX4_talk 37 = .ok (.getfield 26, 3) := by decide +kernel
theorem dX4_talk_40 : decode cX4_talk 40 = .ok (.invokevirtual 161, 3) := by decide +kernel
theorem dX4_talk_43 : decode cX4_talk 43 = .ok (.ireturn, 1) := by decide +kernel
theorem dX4_talk_44 : decode cX4_talk 44 = .ok (.aload_n 0, 1) := by decide +kernel
theorem dX4_talk_45 : decode cX4_talk 45 = .ok (.getfield 26, 3) := by decide +kernel
theorem dX4_talk_48 : decode cX4_talk 48 = .ok (.invokevirtual 164, 3) := by decide +kernel
theorem dX4_talk_51 : decode cX4_talk 51 = .ok (.ireturn, 1) := by decide +kernel
theorem dX4_talk_52 : decode cX4_talk 52 = .ok (.iconst (-1), 1) := by decide +kernel
theorem dX4_talk_53 : decode cX4_talk 53 = .ok (.ireturn, 1) := by decide +kernel
theorem dX4_packed_0 : decode cX4_packed 0 = .ok (.aload_n 0, 1) := by decide +kernel
theorem dX4_packed_1 : decode cX4_packed 1 = .ok (.getfield 33, 3) := by decide +kernel
theorem dX4_packed_4 : decode cX4_packed 4 = .ok (.invokevirtual 124, 3) := by decide +kernel
theorem dX4_packed_7 : decode cX4_packed 7 = .ok (.ireturn, 1) := by decide +kernel
theorem dX4_packAt_0 : decode cX4_packAt 0 = .ok (.aload_n 0, 1) := by decide +kernel
theorem dX4_packAt_1 : decode cX4_packAt 1 = .ok (.getfield 33, 3) := by decide +kernel
theorem dX4_packAt_4 : decode cX4_packAt 4 = .ok (.iload_n 1, 1) := by decide +kernel
theorem dX4_packAt_5 : decode cX4_packAt 5 = .ok (.invokevirtual 167, 3) := by decide +kernel
theorem dX4_packAt_8 : decode cX4_packAt 8 = .ok (.ireturn, 1) := by decide +kernel
theorem dX4_base_0 : decode cX4_base 0 = .ok (.aload_n 0, 1) := by decide +kernel
theorem dX4_base_1 : decode cX4_base 1 = .ok (.getfield 33, 3) := by decide +kernel
theorem dX4_base_4 : decode cX4_base 4 = .ok (.iload_n 1, 1) := by decide +kernel
theorem dX4_base_5 : decode cX4_base 5 = .ok (.invokevirtual 170, 3) := by decide +kernel
theorem dX4_base_8 : decode cX4_base 8 = .ok (.ireturn, 1) := by decide +kernel
theorem dX4_weight_0 : decode cX4_weight 0 = .ok (.aload_n 0, 1) := by decide +kernel
theorem dX4_weight_1 : decode cX4_weight 1 = .ok (.getfield 33, 3) := by decide +kernel
theorem dX4_weight_4 : decode cX4_weight 4 = .ok (.invokevirtual 173, 3) := by decide +kernel
theorem dX4_weight_7 : decode cX4_weight 7 = .ok (.ireturn, 1) := by decide +kernel
theorem dX4_verdict_0 : decode cX4_verdict 0 = .ok (.iload_n 1, 1) := by decide +kernel
theorem dX4_verdict_1 : decode cX4_verdict 1 = .ok (.invokestatic 60, 3) := by decide +kernel
theorem dX4_verdict_4 : decode cX4_verdict 4 = .ok (.ifCond .eq 12, 3) := by decide +kernel
theorem dX4_verdict_7 : decode cX4_verdict 7 = .ok (.aload_n 0, 1) := by decide +kernel
theorem dX4_verdict_8 : decode cX4_verdict 8 = .ok (.getfield 37, 3) := by decide +kernel
theorem dX4_verdict_11 : decode cX4_verdict 11 = .ok (.iload_n 1, 1) := by decide +kernel
theorem dX4_verdict_12 : decode cX4_verdict 12 = .ok (.iaload, 1) := by decide +kernel
theorem dX4_verdict_13 : decode cX4_verdict 13 = .ok (.goto 4, 3) := by decide +kernel
theorem dX4_verdict_16 : decode cX4_verdict 16 = .ok (.iconst 0, 1) := by decide +kernel
theorem dX4_verdict_17 : decode cX4_verdict 17 = .ok (.ireturn, 1) := by decide +kernel
theorem dX5_isNode_0 : decode cX5_isNode 0 = .ok (.iload_n 0, 1) := by decide +kernel
theorem dX5_isNode_1 : decode cX5_isNode 1 = .ok (.ifCond .lt 12, 3) := by decide +kernel
theorem dX5_isNode_4 : decode cX5_isNode 4 = .ok (.iload_n 0, 1) := by decide +kernel
theorem dX5_isNode_5 : decode cX5_isNode 5 = .ok (.iconst 2, 1) := by decide +kernel
theorem dX5_isNode_6 : decode cX5_isNode 6 = .ok (.if_icmp .gt 7, 3) := by decide +kernel
theorem dX5_isNode_9 : decode cX5_isNode 9 = .ok (.iconst 1, 1) := by decide +kernel
theorem dX5_isNode_10 : decode cX5_isNode 10 = .ok (.goto 4, 3) := by decide +kernel
theorem dX5_isNode_13 : decode cX5_isNode 13 = .ok (.iconst 0, 1) := by decide +kernel
theorem dX5_isNode_14 : decode cX5_isNode 14 = .ok (.ireturn, 1) := by decide +kernel
theorem dX5_many_0 : decode cX5_many 0 = .ok (.iconst 0, 1) := by decide +kernel
theorem dX5_many_1 : decode cX5_many 1 = .ok (.istore_n 2, 1) := by decide +kernel
theorem dX5_many_2 : decode cX5_many 2 = .ok (.iconst 0, 1) := by decide +kernel
theorem dX5_many_3 : decode cX5_many 3 = .ok (.istore_n 3, 1) := by decide +kernel
theorem dX5_many_4 : decode cX5_many 4 = .ok (.iload_n 3, 1) := by decide +kernel
theorem dX5_many_5 : decode cX5_many 5 = .ok (.bipush 60, 2) := by decide +kernel
theorem dX5_many_7 : decode cX5_many 7 = .ok (.if_icmp .ge 18, 3) := by decide +kernel
theorem dX5_many_10 : decode cX5_many 10 = .ok (.iload_n 2, 1) := by decide +kernel
theorem dX5_many_11 : decode cX5_many 11 = .ok (.lload_n 0, 1) := by decide +kernel
theorem dX5_many_12 : decode cX5_many 12 = .ok (.iload_n 3, 1) := by decide +kernel
theorem dX5_many_13 : decode cX5_many 13 = .ok (.lshr, 1) := by decide +kernel
theorem dX5_many_14 : decode cX5_many 14 = .ok (.lconst 1, 1) := by decide +kernel
theorem dX5_many_15 : decode cX5_many 15 = .ok (.land, 1) := by decide +kernel
end
section
theorem dX5_many_16 : decode cX5_many 16 = .ok (.l2i, 1) := by decide +kernel
theorem dX5_many_17 : decode cX5_many 17 = .ok (.iadd, 1) := by decide +kernel
theorem dX5_many_18 : decode cX5_many 18 = .ok (.istore_n 2, 1) := by decide +kernel
theorem dX5_many_19 : decode cX5_many 19 = .ok (.iinc 3 1, 3) := by decide +kernel
theorem dX5_many_22 : decode cX5_many 22 = .ok (.goto (-18), 3) := by decide +kernel
theorem dX5_many_25 : decode cX5_many 25 = .ok (.iload_n 2, 1) := by decide +kernel
theorem dX5_many_26 : decode cX5_many 26 = .ok (.ireturn, 1) := by decide +kernel
theorem dX5_has_0 : decode cX5_has 0 = .ok (.iload_n 2, 1) := by decide +kernel
theorem dX5_has_1 : decode cX5_has 1 = .ok (.ifCond .lt 30, 3) := by decide +kernel
theorem dX5_has_4 : decode cX5_has 4 = .ok (.iload_n 2, 1) := by decide +kernel
theorem dX5_has_5 : decode cX5_has 5 = .ok (.aload_n 0, 1) := by decide +kernel
theorem dX5_has_6 : decode cX5_has 6 = .ok (.getfield 69, 3) := by decide +kernel
theorem dX5_has_9 : decode cX5_has 9 = .ok (.if_icmp .ge 22, 3) := by decide +kernel
theorem dX5_has_12 : decode cX5_has 12 = .ok (.aload_n 0, 1) := by decide +kernel
theorem dX5_has_13 : decode cX5_has 13 = .ok (.getfield 22, 3) := by decide +kernel
theorem dX5_has_16 : decode cX5_has 16 = .ok (.iload_n 1, 1) := by decide +kernel
theorem dX5_has_17 : decode cX5_has 17 = .ok (.laload, 1) := by decide +kernel
theorem dX5_has_18 : decode cX5_has 18 = .ok (.iload_n 2, 1) := by decide +kernel
theorem dX5_has_19 : decode cX5_has 19 = .ok (.lshr, 1) := by decide +kernel
theorem dX5_has_20 : decode cX5_has 20 = .ok (.lconst 1, 1) := by decide +kernel
theorem dX5_has_21 : decode cX5_has 21 = .ok (.land, 1) := by decide +kernel
theorem dX5_has_22 : decode cX5_has 22 = .ok (.lconst 1, 1) := by decide +kernel
theorem dX5_has_23 : decode cX5_has 23 = .ok (.lcmp, 1) := by decide +kernel
theorem dX5_has_24 : decode cX5_has 24 = .ok (.ifCond .ne 7, 3) := by decide +kernel
theorem dX5_has_27 : decode cX5_has 27 = .ok (.iconst 1, 1) := by decide +kernel
theorem dX5_has_28 : decode cX5_has 28 = .ok (.goto 4, 3) := by decide +kernel
theorem dX5_has_31 : decode cX5_has 31 = .ok (.iconst 0, 1) := by decide +kernel
theorem dX5_has_32 : decode cX5_has 32 = .ok (.ireturn, 1) := by decide +kernel
theorem dX5_reach_0 : decode cX5_reach 0 = .ok (.lload_n 1, 1) := by decide +kernel
theorem dX5_reach_1 : decode cX5_reach 1 = .ok (.lstore_n 3, 1) := by decide +kernel
theorem dX5_reach_2 : decode cX5_reach 2 = .ok (.aload_n 0, 1) := by decide +kernel
theorem dX5_reach_3 : decode cX5_reach 3 = .ok (.getfield 69, 3) := by decide +kernel
theorem dX5_reach_6 : decode cX5_reach 6 = .ok (.iconst 1, 1) := by decide +kernel
theorem dX5_reach_7 : decode cX5_reach 7 = .ok (.isub, 1) := by decide +kernel
theorem dX5_reach_8 : decode cX5_reach 8 = .ok (.istore 5, 2) := by decide +kernel
theorem dX5_reach_10 : decode cX5_reach 10 = .ok (.iload 5, 2) := by decide +kernel
theorem dX5_reach_12 : decode cX5_reach 12 = .ok (.ifCond .lt 94, 3) := by decide +kernel
theorem dX5_reach_15 : decode cX5_reach 15 = .ok (.lload_n 3, 1) := by decide +kernel
theorem dX5_reach_16 : decode cX5_reach 16 = .ok (.iload 5, 2) := by decide +kernel
theorem dX5_reach_18 : decode cX5_reach 18 = .ok (.lshr, 1) := by decide +kernel
theorem dX5_reach_19 : decode cX5_reach 19 = .ok (.lconst 1, 1) := by decide +kernel
theorem dX5_reach_20 : decode cX5_reach 20 = .ok (.land, 1) := by decide +kernel
theorem dX5_reach_21 : decode cX5_reach 21 = .ok (.lconst 1, 1) := by decide +kernel
theorem dX5_reach_22 : decode cX5_reach 22 = .ok (.lcmp, 1) := by decide +kernel
theorem dX5_reach_23 : decode cX5_reach 23 = .ok (.ifCond .ne 77, 3) := by decide +kernel
theorem dX5_reach_26 : decode cX5_reach 26 = .ok (.aload_n 0, 1) := by decide +kernel
theorem dX5_reach_27 : decode cX5_reach 27 = .ok (.getfield 7, 3) := by decide +kernel
theorem dX5_reach_30 : decode cX5_reach 30 = .ok (.iload 5, 2) := by decide +kernel
theorem dX5_reach_32 : decode cX5_reach 32 = .ok (.iaload, 1) := by decide +kernel
theorem dX5_reach_33 : decode cX5_reach 33 = .ok (.ifCond .le 67, 3) := by decide +kernel
theorem dX5_reach_36 : decode cX5_reach 36 = .ok (.lload_n 3, 1) := by decide +kernel
theorem dX5_reach_37 : decode cX5_reach 37 = .ok (.lconst 1, 1) := by decide +kernel
theorem dX5_reach_38 : decode cX5_reach 38 = .ok (.aload_n 0, 1) := by decide +kernel
theorem dX5_reach_39 : decode cX5_reach 39 = .ok (.getfield 13, 3) := by decide +kernel
theorem dX5_reach_42 : decode cX5_reach 42 = .ok (.iload 5, 2) := by decide +kernel
theorem dX5_reach_44 : decode cX5_reach 44 = .ok (.iaload, 1) := by decide +kernel
theorem dX5_reach_45 : decode cX5_reach 45 = .ok (.lshl, 1) := by decide +kernel
theorem dX5_reach_46 : decode cX5_reach 46 = .ok (.lor, 1) := by decide +kernel
theorem dX5_reach_47 : decode cX5_reach 47 = .ok (.lstore_n 3, 1) := by decide +kernel
theorem dX5_reach_48 : decode cX5_reach 48 = .ok (.aload_n 0, 1) := by decide +kernel
theorem dX5_reach_49 : decode cX5_reach 49 = .ok (.getfield 16, 3) := by decide +kernel
theorem dX5_reach_52 : decode cX5_reach 52 = .ok (.iload 5, 2) := by decide +kernel
theorem dX5_reach_54 : decode cX5_reach 54 = .ok (.iaload, 1) := by decide +kernel
theorem dX5_reach_55 : decode cX5_reach 55 = .ok (.ifCond .lt 17, 3) := by decide +kernel
theorem dX5_reach_58 : decode cX5_reach 58 = .ok (.lload_n 3, 1) := by decide +kernel
theorem dX5_reach_59 : decode cX5_reach 59 = .ok (.lconst 1, 1) := by decide +kernel
theorem dX5_reach_60 : decode cX5_reach 60 = .ok (.aload_n 0, 1) := by decide +kernel
theorem dX5_reach_61 : decode cX5_reach 61 = .ok (.getfield 16, 3) := by decide +kernel
theorem dX5_reach_64 : decode cX5_reach 64 = .ok (.iload 5, 2) := by decide +kernel
theorem dX5_reach_66 : decode cX5_reach 66 = .ok (.iaload, 1) := by decide +kernel
theorem dX5_reach_67 : decode cX5_reach 67 = .ok (.lshl, 1) := by decide +kernel
theorem dX5_reach_68 : decode cX5_reach 68 = .ok (.lor, 1) := by decide +kernel
theorem dX5_reach_69 : decode cX5_reach 69 = .ok (.goto 4, 3) := by decide +kernel
theorem dX5_reach_72 : decode cX5_reach 72 = .ok (.lload_n 3, 1) := by decide +kernel
theorem dX5_reach_73 : decode cX5_reach 73 = .ok (.lstore_n 3, 1) := by decide +kernel
theorem dX5_reach_74 : decode cX5_reach 74 = .ok (.aload_n 0, 1) := by decide +kernel
theorem dX5_reach_75 : decode cX5_reach 75 = .ok (.getfield 19, 3) := by decide +kernel
theorem dX5_reach_78 : decode cX5_reach 78 = .ok (.iload 5, 2) := by decide +kernel
theorem dX5_reach_80 : decode cX5_reach 80 = .ok (.iaload, 1) := by decide +kernel
theorem dX5_reach_81 : decode cX5_reach 81 = .ok (.ifCond .lt 17, 3) := by decide +kernel
theorem dX5_reach_84 : decode cX5_reach 84 = .ok (.lload_n 3, 1) := by decide +kernel
theorem dX5_reach_85 : decode cX5_reach 85 = .ok (.lconst 1, 1) := by decide +kernel
theorem dX5_reach_86 : decode cX5_reach 86 = .ok (.aload_n 0, 1) := by decide +kernel
theorem dX5_reach_87 : decode cX5_reach 87 = .ok (.getfield 19, 3) := by decide +kernel
theorem dX5_reach_90 : decode cX5_reach 90 = .ok (.iload 5, 2) := by decide +kernel
theorem dX5_reach_92 : decode cX5_reach 92 = .ok (.iaload, 1) := by decide +kernel
theorem dX5_reach_93 : decode cX5_reach 93 = .ok (.lshl, 1) := by decide +kernel
theorem dX5_reach_94 : decode cX5_reach 94 = .ok (.lor, 1) := by decide +kernel
theorem dX5_reach_95 : decode cX5_reach 95 = .ok (.goto 4, 3) := by decide +kernel
theorem dX5_reach_98 : decode cX5_reach 98 = .ok (.lload_n 3, 1) := by decide +kernel
theorem dX5_reach_99 : decode cX5_reach 99 = .ok (.lstore_n 3, 1) := by decide +kernel
theorem dX5_reach_100 : decode cX5_reach 100 = .ok (.iinc 5 (-1), 3) := by decide +kernel
theorem dX5_reach_103 : decode cX5_reach 103 = .ok (.goto (-93), 3) := by decide +kernel
theorem dX5_reach_106 : decode cX5_reach 106 = .ok (.lload_n 3, 1) := by decide +kernel
theorem dX5_reach_107 : decode cX5_reach 107 = .ok (.lreturn, 1) := by decide +kernel
theorem dX5_tips_0 : decode cX5_tips 0 = .ok (.lconst 0, 1) := by decide +kernel
theorem dX5_tips_1 : decode cX5_tips 1 = .ok (.lstore 4, 2) := by decide +kernel
theorem dX5_tips_3 : decode cX5_tips 3 = .ok (.iload_n 2, 1) := by decide +kernel
theorem dX5_tips_4 : decode cX5_tips 4 = .ok (.istore 6, 2) := by decide +kernel
theorem dX5_tips_6 : decode cX5_tips 6 = .ok (.iload 6, 2) := by decide +kernel
theorem dX5_tips_8 : decode cX5_tips 8 = .ok (.iload_n 3, 1) := by decide +kernel
theorem dX5_tips_9 : decode cX5_tips 9 = .ok (.if_icmp .gt 45, 3) := by decide +kernel
theorem dX5_tips_12 : decode cX5_tips 12 = .ok (.aload_n 0, 1) := by decide +kernel
theorem dX5_tips_13 : decode cX5_tips 13 = .ok (.getfield 26, 3) := by decide +kernel
theorem dX5_tips_16 : decode cX5_tips 16 = .ok (.bipush 8, 2) := by decide +kernel
theorem dX5_tips_18 : decode cX5_tips 18 = .ok (.iload_n 1, 1) := by decide +kernel
theorem dX5_tips_19 : decode cX5_tips 19 = .ok (.imul, 1) := by decide +kernel
theorem dX5_tips_20 : decode cX5_tips 20 = .ok (.iload 6, 2) := by decide +kernel
theorem dX5_tips_22 : decode cX5_tips 22 = .ok (.iadd, 1) := by decide +kernel
theorem dX5_tips_23 : decode cX5_tips 23 = .ok (.iaload, 1) := by decide +kernel
theorem dX5_tips_24 : decode cX5_tips 24 = .ok (.ifCond .le 24, 3) := by decide +kernel
theorem dX5_tips_27 : decode cX5_tips 27 = .ok (.lload 4, 2) := by decide +kernel
theorem dX5_tips_29 : decode cX5_tips 29 = .ok (.lconst 1, 1) := by decide +kernel
theorem dX5_tips_30 : decode cX5_tips 30 = .ok (.aload_n 0, 1) := by decide +kernel
theorem dX5_tips_31 : decode cX5_tips 31 = .ok (.getfield 26, 3) := by decide +kernel
theorem dX5_tips_34 : decode cX5_tips 34 = .ok (.bipush 8, 2) := by decide +kernel
theorem dX5_tips_36 : decode cX5_tips 36 = .ok (.iload_n 1, 1) := by decide +kernel
theorem dX5_tips_37 : decode cX5_tips 37 = .ok (.imul, 1) := by decide +kernel
theorem dX5_tips_38 : decode cX5_tips 38 = .ok (.iload 6, 2) := by decide +kernel
theorem dX5_tips_40 : decode cX5_tips 40 = .ok (.iadd, 1) := by decide +kernel
theorem dX5_tips_41 : decode cX5_tips 41 = .ok (.iaload, 1) := by decide +kernel
theorem dX5_tips_42 : decode cX5_tips 42 = .ok (.iconst 1, 1) := by decide +kernel
theorem dX5_tips_43 : decode cX5_tips 43 = .ok (.isub, 1) := by decide +kernel
theorem dX5_tips_44 : decode cX5_tips 44 = .ok (.lshl, 1) := by decide +kernel
theorem dX5_tips_45 : decode cX5_tips 45 = .ok (.lor, 1) := by decide +kernel
theorem dX5_tips_46 : decode cX5_tips 46 = .ok (.lstore 4, 2) := by decide +kernel
theorem dX5_tips_48 : decode cX5_tips 48 = .ok (.iinc 6 1, 3) := by decide +kernel
theorem dX5_tips_51 : decode cX5_tips 51 = .ok (.goto (-45), 3) := by decide +kernel
theorem dX5_tips_54 : decode cX5_tips 54 = .ok (.lload 4, 2) := by decide +kernel
theorem dX5_tips_56 : decode cX5_tips 56 = .ok (.lreturn, 1) := by decide +kernel
theorem dX5_write_0 : decode cX5_write 0 = .ok (.aload_n 0, 1) := by decide +kernel
theorem dX5_write_1 : decode cX5_write 1 = .ok (.getfield 33, 3) := by decide +kernel
theorem dX5_write_4 : decode cX5_write 4 = .ok (.iload_n 1, 1) := by decide +kernel
theorem dX5_write_5 : decode cX5_write 5 = .ok (.iaload, 1) := by decide +kernel
theorem dX5_write_6 : decode cX5_write 6 = .ok (.iconst 1, 1) := by decide +kernel
theorem dX5_write_7 : decode cX5_write 7 = .ok (.if_icmp .ne 19, 3) := by decide +kernel
theorem dX5_write_10 : decode cX5_write 10 = .ok (.aload_n 0, 1) := by decide +kernel
theorem dX5_write_11 : decode cX5_write 11 = .ok (.getfield 33, 3) := by decide +kernel
theorem dX5_write_14 : decode cX5_write 14 = .ok (.iload_n 1, 1) := by decide +kernel
theorem dX5_write_15 : decode cX5_write 15 = .ok (.iconst 0, 1) := by decide +kernel
theorem dX5_write_16 : decode cX5_write 16 = .ok (.iastore, 1) := by decide +kernel
theorem dX5_write_17 : decode cX5_write 17 = .ok (.aload_n 0, 1) := by decide +kernel
theorem dX5_write_18 : decode cX5_write 18 = .ok (.getfield 29, 3) := by decide +kernel
theorem dX5_write_21 : decode cX5_write 21 = .ok (.iload_n 1, 1) := by decide +kernel
theorem dX5_write_22 : decode cX5_write 22 = .ok (.iconst 1, 1) := by decide +kernel
theorem dX5_write_23 : decode cX5_write 23 = .ok (.bastore, 1) := by decide +kernel
theorem dX5_write_24 : decode cX5_write 24 = .ok (.iconst 0, 1) := by decide +kernel
theorem dX5_write_25 : decode cX5_write 25 = .ok (.ireturn, 1) := by decide +kernel
theorem dX5_write_26 : decode cX5_write 26 = .ok (.aload_n 0, 1) := by decide +kernel
theorem dX5_write_27 : decode cX5_write 27 = .ok (.getfield 33, 3) := by decide +kernel
theorem dX5_write_30 : decode cX5_write 30 = .ok (.iload_n 1, 1) := by decide +kernel
theorem dX5_write_31 : decode cX5_write 31 = .ok (.aload_n 0, 1) := by decide +kernel
theorem dX5_write_32 : decode cX5_write 32 = .ok (.getfield 33, 3) := by decide +kernel
theorem dX5_write_35 : decode cX5_write 35 = .ok (.iload_n 1, 1) := by decide +kernel
theorem dX5_write_36 : decode cX5_write 36 = .ok (.iaload, 1) := by decide +kernel
theorem dX5_write_37 : decode cX5_write 37 = .ok (.ifCond .le 14, 3) := by decide +kernel
theorem dX5_write_40 : decode cX5_write 40 = .ok (.aload_n 0, 1) := by decide +kernel
theorem dX5_write_41 : decode cX5_write 41 = .ok (.getfield 33, 3) := by decide +kernel
theorem dX5_write_44 : decode cX5_write 44 = .ok (.iload_n 1, 1) := by decide +kernel
theorem dX5_write_45 : decode cX5_write 45 = .ok (.iaload, 1) := by decide +kernel
theorem dX5_write_46 : decode cX5_write 46 = .ok (.iconst 1, 1) := by decide +kernel
theorem dX5_write_47 : decode cX5_write 47 = .ok (.isub, 1) := by decide +kernel
theorem dX5_write_48 : decode cX5_write 48 = .ok (.goto 4, 3) := by decide +kernel
theorem dX5_write_51 : decode cX5_write 51 = .ok (.iconst 0, 1) := by decide +kernel
theorem dX5_write_52 : decode cX5_write 52 = .ok (.iastore, 1) := by decide +kernel
theorem dX5_write_53 : decode cX5_write 53 = .ok (.iconst 1, 1) := by decide +kernel
theorem dX5_write_54 : decode cX5_write 54 = .ok (.ireturn, 1) := by decide +kernel
theorem dX5_store_0 : decode cX5_store 0 = .ok (.iconst 0, 1) := by decide +kernel
theorem dX5_store_1 : decode cX5_store 1 = .ok (.istore 4, 2) := by decide +kernel
theorem dX5_store_3 : decode cX5_store 3 = .ok (.iload 4, 2) := by decide +kernel
theorem dX5_store_5 : decode cX5_store 5 = .ok (.aload_n 0, 1) := by decide +kernel
theorem dX5_store_6 : decode cX5_store 6 = .ok (.getfield 69, 3) := by decide +kernel
theorem dX5_store_9 : decode cX5_store 9 = .ok (.if_icmp .ge 57, 3) := by decide +kernel
theorem dX5_store_12 : decode cX5_store 12 = .ok (.lload_n 2, 1) := by decide +kernel
theorem dX5_store_13 : decode cX5_store 13 = .ok (.iload 4, 2) := by decide +kernel
theorem dX5_store_15 : decode cX5_store 15 = .ok (.lshr, 1) := by decide +kernel
theorem dX5_store_16 : decode cX5_store 16 = .ok (.lconst 1, 1) := by decide +kernel
theorem dX5_store_17 : decode cX5_store 17 = .ok (.land, 1) := by decide +kernel
theorem dX5_store_18 : decode cX5_store 18 = .ok (.lconst 1, 1) := by decide +kernel
theorem dX5_store_19 : decode cX5_store 19 = .ok (.lcmp, 1) := by decide +kernel
theorem dX5_store_20 : decode cX5_store 20 = .ok (.ifCond .ne 40, 3) := by decide +kernel
theorem dX5_store_23 : decode cX5_store 23 = .ok (.aload_n 0, 1) := by decide +kernel
theorem dX5_store_24 : decode cX5_store 24 = .ok (.iload_n 1, 1) := by decide +kernel
theorem dX5_store_25 : decode cX5_store 25 = .ok (.iload 4, 2) := by decide +kernel
theorem dX5_store_27 : decode cX5_store 27 = .ok (.invokevirtual 73, 3) := by decide +kernel
theorem dX5_store_30 : decode cX5_store 30 = .ok (.ifCond .ne 30, 3) := by decide +kernel
theorem dX5_store_33 : decode cX5_store 33 = .ok (.aload_n 0, 1) := by decide +kernel
theorem dX5_store_34 : decode cX5_store 34 = .ok (.iload_n 1, 1) := by decide +kernel
theorem dX5_store_35 : decode cX5_store 35 = .ok (.invokevirtual 77, 3) := by decide +kernel
theorem dX5_store_38 : decode cX5_store 38 = .ok (.ifCond .ne 5, 3) := by decide +kernel
theorem dX5_store_41 : decode cX5_store 41 = .ok (.iconst 0, 1) := by decide +kernel
theorem dX5_store_42 : decode cX5_store 42 = .ok (.ireturn, 1) := by decide +kernel
theorem dX5_store_43 : decode cX5_store 43 = .ok (.aload_n 0, 1) := by decide +kernel
theorem dX5_store_44 : decode cX5_store 44 = .ok (.getfield 22, 3) := by decide +kernel
theorem dX5_store_47 : decode cX5_store 47 = .ok (.iload_n 1, 1) := by decide +kernel
theorem dX5_store_48 : decode cX5_store 48 = .ok (.aload_n 0, 1) := by decide +kernel
theorem dX5_store_49 : decode cX5_store 49 = .ok (.getfield 22, 3) := by decide +kernel
theorem dX5_store_52 : decode cX5_store 52 = .ok (.iload_n 1, 1) := by decide +kernel
theorem dX5_store_53 : decode cX5_store 53 = .ok (.laload, 1) := by decide +kernel
theorem dX5_store_54 : decode cX5_store 54 = .ok (.lconst 1, 1) := by decide +kernel
theorem dX5_store_55 : decode cX5_store 55 = .ok (.iload 4, 2) := by decide +kernel
theorem dX5_store_57 : decode cX5_store 57 = .ok (.lshl, 1) := by decide +kernel
theorem dX5_store_58 : decode cX5_store 58 = .ok (.lor, 1) := by decide +kernel
theorem dX5_store_59 : decode cX5_store 59 = .ok (.lastore, 1) := by decide +kernel
theorem dX5_store_60 : decode cX5_store 60 = .ok (.iinc 4 1, 3) := by decide +kernel
theorem dX5_store_63 : decode cX5_store 63 = .ok (.goto (-60), 3) := by decide +kernel
theorem dX5_store_66 : decode cX5_store 66 = .ok (.iconst 1, 1) := by decide +kernel
theorem dX5_store_67 : decode cX5_store 67 = .ok (.ireturn, 1) := by decide +kernel
theorem dX5_wish_0 : decode cX5_wish 0 = .ok (.aload_n 0, 1) := by decide +kernel
theorem dX5_wish_1 : decode cX5_wish 1 = .ok (.getfield 48, 3) := by decide +kernel
theorem dX5_wish_4 : decode cX5_wish 4 = .ok (.aload_n 0, 1) := by decide +kernel
theorem dX5_wish_5 : decode cX5_wish 5 = .ok (.getfield 81, 3) := by decide +kernel
theorem dX5_wish_8 : decode cX5_wish 8 = .ok (.iload_n 1, 1) := by decide +kernel
theorem dX5_wish_9 : decode cX5_wish 9 = .ok (.iastore, 1) := by decide +kernel
theorem dX5_wish_10 : decode cX5_wish 10 = .ok (.aload_n 0, 1) := by decide +kernel
theorem dX5_wish_11 : decode cX5_wish 11 = .ok (.getfield 51, 3) := by decide +kernel
theorem dX5_wish_14 : decode cX5_wish 14 = .ok (.aload_n 0, 1) := by decide +kernel
theorem dX5_wish_15 : decode cX5_wish 15 = .ok (.getfield 81, 3) := by decide +kernel
theorem dX5_wish_18 : decode cX5_wish 18 = .ok (.iload_n 2, 1) := by decide +kernel
theorem dX5_wish_19 : decode cX5_wish 19 = .ok (.iastore, 1) := by decide +kernel
theorem dX5_wish_20 : decode cX5_wish 20 = .ok (.aload_n 0, 1) := by decide +kernel
theorem dX5_wish_21 : decode cX5_wish 21 = .ok (.dup, 1) := by decide +kernel
theorem dX5_wish_22 : decode cX5_wish 22 = .ok (.getfield 81, 3) := by decide +kernel
theorem dX5_wish_25 : decode cX5_wish 25 = .ok (.iconst 1, 1) := by decide +kernel
theorem dX5_wish_26 : decode cX5_wish 26 = .ok (.iadd, 1) := by decide +kernel
theorem dX5_wish_27 : decode cX5_wish 27 = .ok (.putfield 81, 3) := by decide +kernel
theorem dX5_wish_30 : decode cX5_wish 30 = .ok (.return_, 1) := by decide +kernel
theorem dX5_wipe_0 : decode cX5_wipe 0 = .ok (.aload_n 0, 1) := by decide +kernel
theorem dX5_wipe_1 : decode cX5_wipe 1 = .ok (.iload_n 1, 1) := by decide +kernel
theorem dX5_wipe_2 : decode cX5_wipe 2 = .ok (.invokevirtual 77, 3) := by decide +kernel
theorem dX5_wipe_5 : decode cX5_wipe 5 = .ok (.ifCond .ne 5, 3) := by decide +kernel
theorem dX5_wipe_8 : decode cX5_wipe 8 = .ok (.iconst 0, 1) := by decide +kernel
theorem dX5_wipe_9 : decode cX5_wipe 9 = .ok (.ireturn, 1) := by decide +kernel
theorem dX5_wipe_10 : decode cX5_wipe 10 = .ok (.aload_n 0, 1) := by decide +kernel
theorem dX5_wipe_11 : decode cX5_wipe 11 = .ok (.getfield 36, 3) := by decide +kernel
theorem dX5_wipe_14 : decode cX5_wipe 14 = .ok (.iload_n 1, 1) := by decide +kernel
theorem dX5_wipe_15 : decode cX5_wipe 15 = .ok (.iconst 0, 1) := by decide +kernel
theorem dX5_wipe_16 : decode cX5_wipe 16 = .ok (.iastore, 1) := by decide +kernel
theorem dX5_wipe_17 : decode cX5_wipe 17 = .ok (.aload_n 0, 1) := by decide +kernel
theorem dX5_wipe_18 : decode cX5_wipe 18 = .ok (.getfield 39, 3) := by decide +kernel
theorem dX5_wipe_21 : decode cX5_wipe 21 = .ok (.iload_n 1, 1) := by decide +kernel
theorem dX5_wipe_22 : decode cX5_wipe 22 = .ok (.iconst 0, 1) := by decide +kernel
theorem dX5_wipe_23 : decode cX5_wipe 23 = .ok (.bastore, 1) := by decide +kernel
theorem dX5_wipe_24 : decode cX5_wipe 24 = .ok (.iconst 1, 1) := by decide +kernel
theorem dX5_wipe_25 : decode cX5_wipe 25 = .ok (.ireturn, 1) := by decide +kernel
theorem dX5_replay_0 : decode cX5_replay 0 = .ok (.iconst 0, 1) := by decide +kernel
theorem dX5_replay_1 : decode cX5_replay 1 = .ok (.istore_n 2, 1) := by decide +kernel
theorem dX5_replay_2 : decode cX5_replay 2 = .ok (.iload_n 2, 1) := by decide +kernel
theorem dX5_replay_3 : decode cX5_replay 3 = .ok (.aload_n 0, 1) := by decide +kernel
theorem dX5_replay_4 : decode cX5_replay 4 = .ok (.getfield 36, 3) := by decide +kernel
theorem dX5_replay_7 : decode cX5_replay 7 = .ok (.iload_n 1, 1) := by decide +kernel
theorem dX5_replay_8 : decode cX5_replay 8 = .ok (.iaload, 1) := by decide +kernel
theorem dX5_replay_9 : decode cX5_replay 9 = .ok (.if_icmp .ge 49, 3) := by decide +kernel
theorem dX5_replay_12 : decode cX5_replay 12 = .ok (.aload_n 0, 1) := by decide +kernel
theorem dX5_replay_13 : decode cX5_replay 13 = .ok (.iload_n 1, 1) := by decide +kernel
theorem dX5_replay_14 : decode cX5_replay 14 = .ok (.invokevirtual 77, 3) := by decide +kernel
theorem dX5_replay_17 : decode cX5_replay 17 = .ok (.ifCond .ne 5, 3) := by decide +kernel
theorem dX5_replay_20 : decode cX5_replay 20 = .ok (.iconst 0, 1) := by decide +kernel
theorem dX5_replay_21 : decode cX5_replay 21 = .ok (.ireturn, 1) := by decide +kernel
theorem dX5_replay_22 : decode cX5_replay 22 = .ok (.aload_n 0, 1) := by decide +kernel
theorem dX5_replay_23 : decode cX5_replay 23 = .ok (.getfield 26, 3) := by decide +kernel
theorem dX5_replay_26 : decode cX5_replay 26 = .ok (.bipush 8, 2) := by decide +kernel
theorem dX5_replay_28 : decode cX5_replay 28 = .ok (.iload_n 1, 1) := by decide +kernel
theorem dX5_replay_29 : decode cX5_replay 29 = .ok (.imul, 1) := by decide +kernel
theorem dX5_replay_30 : decode cX5_replay 30 = .ok (.aload_n 0, 1) := by decide +kernel
theorem dX5_replay_31 : decode cX5_replay 31 = .ok (.getfield 42, 3) := by decide +kernel
theorem dX5_replay_34 : decode cX5_replay 34 = .ok (.iconst 4, 1) := by decide +kernel
theorem dX5_replay_35 : decode cX5_replay 35 = .ok (.iload_n 1, 1) := by decide +kernel
theorem dX5_replay_36 : decode cX5_replay 36 = .ok (.imul, 1) := by decide +kernel
theorem dX5_replay_37 : decode cX5_replay 37 = .ok (.iload_n 2, 1) := by decide +kernel
theorem dX5_replay_38 : decode cX5_replay 38 = .ok (.iadd, 1) := by decide +kernel
theorem dX5_replay_39 : decode cX5_replay 39 = .ok (.iaload, 1) := by decide +kernel
theorem dX5_replay_40 : decode cX5_replay 40 = .ok (.iadd, 1) := by decide +kernel
theorem dX5_replay_41 : decode cX5_replay 41 = .ok (.aload_n 0, 1) := by decide +kernel
theorem dX5_replay_42 : decode cX5_replay 42 = .ok (.getfield 45, 3) := by decide +kernel
theorem dX5_replay_45 : decode cX5_replay 45 = .ok (.iconst 4, 1) := by decide +kernel
theorem dX5_replay_46 : decode cX5_replay 46 = .ok (.iload_n 1, 1) := by decide +kernel
theorem dX5_replay_47 : decode cX5_replay 47 = .ok (.imul, 1) := by decide +kernel
theorem dX5_replay_48 : decode cX5_replay 48 = .ok (.iload_n 2, 1) := by decide +kernel
theorem dX5_replay_49 : decode cX5_replay 49 = .ok (.iadd, 1) := by decide +kernel
theorem dX5_replay_50 : decode cX5_replay 50 = .ok (.iaload, 1) := by decide +kernel
theorem dX5_replay_51 : decode cX5_replay 51 = .ok (.iastore, 1) := by decide +kernel
theorem dX5_replay_52 : decode cX5_replay 52 = .ok (.iinc 2 1, 3) := by decide +kernel
theorem dX5_replay_55 : decode cX5_replay 55 = .ok (.goto (-53), 3) := by decide +kernel
theorem dX5_replay_58 : decode cX5_replay 58 = .ok (.aload_n 0, 1) := by decide +kernel
theorem dX5_replay_59 : decode cX5_replay 59 = .ok (.iload_n 1, 1) := by decide +kernel
theorem dX5_replay_60 : decode cX5_replay 60 = .ok (.invokevirtual 87, 3) := by decide +kernel
theorem dX5_replay_63 : decode cX5_replay 63 = .ok (.ireturn, 1) := by decide +kernel
theorem dX5_transact_0 : decode cX5_transact 0 = .ok (.iconst 0, 1) := by decide +kernel
theorem dX5_transact_1 : decode cX5_transact 1 = .ok (.istore_n 2, 1) := by decide +kernel
theorem dX5_transact_2 : decode cX5_transact 2 = .ok (.iconst 0, 1) := by decide +kernel
theorem dX5_transact_3 : decode cX5_transact 3 = .ok (.istore_n 3, 1) := by decide +kernel
theorem dX5_transact_4 : decode cX5_transact 4 = .ok (.iload_n 3, 1) := by decide +kernel
theorem dX5_transact_5 : decode cX5_transact 5 = .ok (.aload_n 0, 1) := by decide +kernel
theorem dX5_transact_6 : decode cX5_transact 6 = .ok (.getfield 81, 3) := by decide +kernel
theorem dX5_transact_9 : decode cX5_transact 9 = .ok (.if_icmp .ge 86, 3) := by decide +kernel
theorem dX5_transact_12 : decode cX5_transact 12 = .ok (.aload_n 0, 1) := by decide +kernel
theorem dX5_transact_13 : decode cX5_transact 13 = .ok (.getfield 26, 3) := by decide +kernel
theorem dX5_transact_16 : decode cX5_transact 16 = .ok (.bipush 8, 2) := by decide +kernel
theorem dX5_transact_18 : decode cX5_transact 18 = .ok (.iload_n 1, 1) := by decide +kernel
theorem dX5_transact_19 : decode cX5_transact 19 = .ok (.imul, 1) := by decide +kernel
theorem dX5_transact_20 : decode cX5_transact 20 = .ok (.aload_n 0, 1) := by decide +kernel
theorem dX5_transact_21 : decode cX5_transact 21 = .ok (.getfield 48, 3) := by decide +kernel
theorem dX5_transact_24 : decode cX5_transact 24 = .ok (.iload_n 3, 1) := by decide +kernel
theorem dX5_transact_25 : decode cX5_transact 25 = .ok (.iaload, 1) := by decide +kernel
theorem dX5_transact_26 : decode cX5_transact 26 = .ok (.iadd, 1) := by decide +kernel
theorem dX5_transact_27 : decode cX5_transact 27 = .ok (.iaload, 1) := by decide +kernel
theorem dX5_transact_28 : decode cX5_transact 28 = .ok (.aload_n 0, 1) := by decide +kernel
theorem dX5_transact_29 : decode cX5_transact 29 = .ok (.getfield 51, 3) := by decide +kernel
theorem dX5_transact_32 : decode cX5_transact 32 = .ok (.iload_n 3, 1) := by decide +kernel
theorem dX5_transact_33 : decode cX5_transact 33 = .ok (.iaload, 1) := by decide +kernel
theorem dX5_transact_34 : decode cX5_transact 34 = .ok (.if_icmp .eq 55, 3) := by decide +kernel
theorem dX5_transact_37 : decode cX5_transact 37 = .ok (.aload_n 0, 1) := by decide +kernel
theorem dX5_transact_38 : decode cX5_transact 38 = .ok (.iload_n 1, 1) := by decide +kernel
theorem dX5_transact_39 : decode cX5_transact 39 = .ok (.invokevirtual 77, 3) := by decide +kernel
theorem dX5_transact_42 : decode cX5_transact 42 = .ok (.ifCond .ne 5, 3) := by decide +kernel
theorem dX5_transact_45 : decode cX5_transact 45 = .ok (.iconst 0, 1) := by decide +kernel
theorem dX5_transact_46 : decode cX5_transact 46 = .ok (.ireturn, 1) := by decide +kernel
theorem dX5_transact_47 : decode cX5_transact 47 = .ok (.aload_n 0, 1) := by decide +kernel
theorem dX5_transact_48 : decode cX5_transact 48 = .ok (.getfield 42, 3) := by decide +kernel
theorem dX5_transact_51 : decode cX5_transact 51 = .ok (.iconst 4, 1) := by decide +kernel
theorem dX5_transact_52 : decode cX5_transact 52 = .ok (.iload_n 1, 1) := by decide +kernel
theorem dX5_transact_53 : decode cX5_transact 53 = .ok (.imul, 1) := by decide +kernel
theorem dX5_transact_54 : decode cX5_transact 54 = .ok (.iload_n 2, 1) := by decide +kernel
theorem dX5_transact_55 : decode cX5_transact 55 = .ok (.iadd, 1) := by decide +kernel
theorem dX5_transact_56 : decode cX5_transact 56 = .ok (.aload_n 0, 1) := by decide +kernel
theorem dX5_transact_57 : decode cX5_transact 57 = .ok (.getfield 48, 3) := by decide +kernel
theorem dX5_transact_60 : decode cX5_transact 60 = .ok (.iload_n 3, 1) := by decide +kernel
theorem dX5_transact_61 : decode cX5_transact 61 = .ok (.iaload, 1) := by decide +kernel
theorem dX5_transact_62 : decode cX5_transact 62 = .ok (.iastore, 1) := by decide +kernel
theorem dX5_transact_63 : decode cX5_transact 63 = .ok (.aload_n 0, 1) := by decide +kernel
theorem dX5_transact_64 : decode cX5_transact 64 = .ok (.getfield 45, 3) := by decide +kernel
theorem dX5_transact_67 : decode cX5_transact 67 = .ok (.iconst 4, 1) := by decide +kernel
theorem dX5_transact_68 : decode cX5_transact 68 = .ok (.iload_n 1, 1) := by decide +kernel
theorem dX5_transact_69 : decode cX5_transact 69 = .ok (.imul, 1) := by decide +kernel
theorem dX5_transact_70 : decode cX5_transact 70 = .ok (.iload_n 2, 1) := by decide +kernel
theorem dX5_transact_71 : decode cX5_transact 71 = .ok (.iadd, 1) := by decide +kernel
theorem dX5_transact_72 : decode cX5_transact 72 = .ok (.aload_n 0, 1) := by decide +kernel
theorem dX5_transact_73 : decode cX5_transact 73 = .ok (.getfield 51, 3) := by decide +kernel
theorem dX5_transact_76 : decode cX5_transact 76 = .ok (.iload_n 3, 1) := by decide +kernel
theorem dX5_transact_77 : decode cX5_transact 77 = .ok (.iaload, 1) := by decide +kernel
theorem dX5_transact_78 : decode cX5_transact 78 = .ok (.iastore, 1) := by decide +kernel
theorem dX5_transact_79 : decode cX5_transact 79 = .ok (.iinc 2 1, 3) := by decide +kernel
theorem dX5_transact_82 : decode cX5_transact 82 = .ok (.aload_n 0, 1) := by decide +kernel
theorem dX5_transact_83 : decode cX5_transact 83 = .ok (.getfield 36, 3) := by decide +kernel
theorem dX5_transact_86 : decode cX5_transact 86 = .ok (.iload_n 1, 1) := by decide +kernel
theorem dX5_transact_87 : decode cX5_transact 87 = .ok (.iload_n 2, 1) := by decide +kernel
theorem dX5_transact_88 : decode cX5_transact 88 = .ok (.iastore, 1) := by decide +kernel
theorem dX5_transact_89 : decode cX5_transact 89 = .ok (.iinc 3 1, 3) := by decide +kernel
theorem dX5_transact_92 : decode cX5_transact 92 = .ok (.goto (-88), 3) := by decide +kernel
theorem dX5_transact_95 : decode cX5_transact 95 = .ok (.iload_n 2, 1) := by decide +kernel
theorem dX5_transact_96 : decode cX5_transact 96 = .ok (.ifCond .ne 5, 3) := by decide +kernel
theorem dX5_transact_99 : decode cX5_transact 99 = .ok (.iconst 1, 1) := by decide +kernel
theorem dX5_transact_100 : decode cX5_transact 100 = .ok (.ireturn, 1) := by decide +kernel
theorem dX5_transact_101 : decode cX5_transact 101 = .ok (.aload_n 0, 1) := by decide +kernel
theorem dX5_transact_102 : decode cX5_transact 102 = .ok (.iload_n 1, 1) := by decide +kernel
theorem dX5_transact_103 : decode cX5_transact 103 = .ok (.invokevirtual 77, 3) := by decide +kernel
theorem dX5_transact_106 : decode cX5_transact 106 = .ok (.ifCond .ne 5, 3) := by decide +kernel
theorem dX5_transact_109 : decode cX5_transact 109 = .ok (.iconst 0, 1) := by decide +kernel
theorem dX5_transact_110 : decode cX5_transact 110 = .ok (.ireturn, 1) := by decide +kernel
theorem dX5_transact_111 : decode cX5_transact 111 = .ok (.aload_n 0, 1) := by decide +kernel
theorem dX5_transact_112 : decode cX5_transact 112 = .ok (.getfield 39, 3) := by decide +kernel
theorem dX5_transact_115 : decode cX5_transact 115 = .ok (.iload_n 1, 1) := by decide +kernel
theorem dX5_transact_116 : decode cX5_transact 116 = .ok (.iconst 1, 1) := by decide +kernel
theorem dX5_transact_117 : decode cX5_transact 117 = .ok (.bastore, 1) := by decide +kernel
theorem dX5_transact_118 : decode cX5_transact 118 = .ok (.aload_n 0, 1) := by decide +kernel
theorem dX5_transact_119 : decode cX5_transact 119 = .ok (.iload_n 1, 1) := by decide +kernel
theorem dX5_transact_120 : decode cX5_transact 120 = .ok (.invokevirtual 84, 3) := by decide +kernel
theorem dX5_transact_123 : decode cX5_transact 123 = .ok (.ireturn, 1) := by decide +kernel
theorem dX5_make_0 : decode cX5_make 0 = .ok (.iconst 0, 1) := by decide +kernel
theorem dX5_make_1 : decode cX5_make 1 = .ok (.istore 6, 2) := by decide +kernel
theorem dX5_make_3 : decode cX5_make 3 = .ok (.iload 6, 2) := by decide +kernel
theorem dX5_make_5 : decode cX5_make 5 = .ok (.aload_n 0, 1) := by decide +kernel
theorem dX5_make_6 : decode cX5_make 6 = .ok (.getfield 69, 3) := by decide +kernel
theorem dX5_make_9 : decode cX5_make 9 = .ok (.if_icmp .ge 55, 3) := by decide +kernel
theorem dX5_make_12 : decode cX5_make 12 = .ok (.aload_n 0, 1) := by decide +kernel
theorem dX5_make_13 : decode cX5_make 13 = .ok (.getfield 7, 3) := by decide +kernel
theorem dX5_make_16 : decode cX5_make 16 = .ok (.iload 6, 2) := by decide +kernel
theorem dX5_make_18 : decode cX5_make 18 = .ok (.iaload, 1) := by decide +kernel
theorem dX5_make_19 : decode cX5_make 19 = .ok (.iload_n 2, 1) := by decide +kernel
theorem dX5_make_20 : decode cX5_make 20 = .ok (.if_icmp .ne 38, 3) := by decide +kernel
theorem dX5_make_23 : decode cX5_make 23 = .ok (.aload_n 0, 1) := by decide +kernel
theorem dX5_make_24 : decode cX5_make 24 = .ok (.getfield 13, 3) := by decide +kernel
theorem dX5_make_27 : decode cX5_make 27 = .ok (.iload 6, 2) := by decide +kernel
theorem dX5_make_29 : decode cX5_make 29 = .ok (.iaload, 1) := by decide +kernel
theorem dX5_make_30 : decode cX5_make 30 = .ok (.iload_n 3, 1) := by decide +kernel
theorem dX5_make_31 : decode cX5_make 31 = .ok (.if_icmp .ne 27, 3) := by decide +kernel
theorem dX5_make_34 : decode cX5_make 34 = .ok (.aload_n 0, 1) := by decide +kernel
theorem dX5_make_35 : decode cX5_make 35 = .ok (.getfield 16, 3) := by decide +kernel
theorem dX5_make_38 : decode cX5_make 38 = .ok (.iload 6, 2) := by decide +kernel
theorem dX5_make_40 : decode cX5_make 40 = .ok (.iaload, 1) := by decide +kernel
theorem dX5_make_41 : decode cX5_make 41 = .ok (.iload 4, 2) := by decide +kernel
theorem dX5_make_43 : decode cX5_make 43 = .ok (.if_icmp .ne 15, 3) := by decide +kernel
theorem dX5_make_46 : decode cX5_make 46 = .ok (.aload_n 0, 1) := by decide +kernel
theorem dX5_make_47 : decode cX5_make 47 = .ok (.getfield 19, 3) := by decide +kernel
theorem dX5_make_50 : decode cX5_make 50 = .ok (.iload 6, 2) := by decide +kernel
theorem dX5_make_52 : decode cX5_make 52 = .ok (.iaload, 1) := by decide +kernel
theorem dX5_make_53 : decode cX5_make 53 = .ok (.iload 5, 2) := by decide +kernel
theorem dX5_make_55 : decode cX5_make 55 = .ok (.if_icmp .eq 9, 3) := by decide +kernel
theorem dX5_make_58 : decode cX5_make 58 = .ok (.iinc 6 1, 3) := by decide +kernel
theorem dX5_make_61 : decode cX5_make 61 = .ok (.goto (-58), 3) := by decide +kernel
theorem dX5_make_64 : decode cX5_make 64 = .ok (.iload 6, 2) := by decide +kernel
theorem dX5_make_66 : decode cX5_make 66 = .ok (.bipush 60, 2) := by decide +kernel
theorem dX5_make_68 : decode cX5_make 68 = .ok (.if_icmp .ne 6, 3) := by decide +kernel
theorem dX5_make_71 : decode cX5_make 71 = .ok (.bipush (-3), 2) := by decide +kernel
theorem dX5_make_73 : decode cX5_make 73 = .ok (.ireturn, 1) := by decide +kernel
theorem dX5_make_74 : decode cX5_make 74 = .ok (.iload 6, 2) := by decide +kernel
theorem dX5_make_76 : decode cX5_make 76 = .ok (.aload_n 0, 1) := by decide +kernel
theorem dX5_make_77 : decode cX5_make 77 = .ok (.getfield 69, 3) := by decide +kernel
theorem dX5_make_80 : decode cX5_make 80 = .ok (.if_icmp .ge 16, 3) := by decide +kernel
theorem dX5_make_83 : decode cX5_make 83 = .ok (.aload_n 0, 1) := by decide +kernel
theorem dX5_make_84 : decode cX5_make 84 = .ok (.iload_n 1, 1) := by decide +kernel
theorem dX5_make_85 : decode cX5_make 85 = .ok (.iload 6, 2) := by decide +kernel
theorem dX5_make_87 : decode cX5_make 87 = .ok (.invokevirtual 73, 3) := by decide +kernel
theorem dX5_make_90 : decode cX5_make 90 = .ok (.ifCond .eq 6, 3) := by decide +kernel
theorem dX5_make_93 : decode cX5_make 93 = .ok (.iload 6, 2) := by decide +kernel
theorem dX5_make_95 : decode cX5_make 95 = .ok (.ireturn, 1) := by decide +kernel
theorem dX5_make_96 : decode cX5_make 96 = .ok (.aload_n 0, 1) := by decide +kernel
theorem dX5_make_97 : decode cX5_make 97 = .ok (.iload_n 1, 1) := by decide +kernel
theorem dX5_make_98 : decode cX5_make 98 = .ok (.invokevirtual 77, 3) := by decide +kernel
theorem dX5_make_101 : decode cX5_make 101 = .ok (.ifCond .ne 6, 3) := by decide +kernel
theorem dX5_make_104 : decode cX5_make 104 = .ok (.bipush (-2), 2) := by decide +kernel
theorem dX5_make_106 : decode cX5_make 106 = .ok (.ireturn, 1) := by decide +kernel
theorem dX5_make_107 : decode cX5_make 107 = .ok (.iload 6, 2) := by decide +kernel
theorem dX5_make_109 : decode cX5_make 109 = .ok (.aload_n 0, 1) := by decide +kernel
theorem dX5_make_110 : decode cX5_make 110 = .ok (.getfield 69, 3) := by decide +kernel
theorem dX5_make_113 : decode cX5_make 113 = .ok (.if_icmp .ne 47, 3) := by decide +kernel
theorem dX5_make_116 : decode cX5_make 116 = .ok (.aload_n 0, 1) := by decide +kernel
theorem dX5_make_117 : decode cX5_make 117 = .ok (.getfield 7, 3) := by decide +kernel
theorem dX5_make_120 : decode cX5_make 120 = .ok (.iload 6, 2) := by decide +kernel
theorem dX5_make_122 : decode cX5_make 122 = .ok (.iload_n 2, 1) := by decide +kernel
theorem dX5_make_123 : decode cX5_make 123 = .ok (.iastore, 1) := by decide +kernel
theorem dX5_make_124 : decode cX5_make 124 = .ok (.aload_n 0, 1) := by decide +kernel
theorem dX5_make_125 : decode cX5_make 125 = .ok (.getfield 13, 3) := by decide +kernel
theorem dX5_make_128 : decode cX5_make 128 = .ok (.iload 6, 2) := by decide +kernel
theorem dX5_make_130 : decode cX5_make 130 = .ok (.iload_n 3, 1) := by decide +kernel
theorem dX5_make_131 : decode cX5_make 131 = .ok (.iastore, 1) := by decide +kernel
theorem dX5_make_132 : decode cX5_make 132 = .ok (.aload_n 0, 1) := by decide +kernel
theorem dX5_make_133 : decode cX5_make 133 = .ok (.getfield 16, 3) := by decide +kernel
theorem dX5_make_136 : decode cX5_make 136 = .ok (.iload 6, 2) := by decide +kernel
theorem dX5_make_138 : decode cX5_make 138 = .ok (.iload 4, 2) := by decide +kernel
theorem dX5_make_140 : decode cX5_make 140 = .ok (.iastore, 1) := by decide +kernel
theorem dX5_make_141 : decode cX5_make 141 = .ok (.aload_n 0, 1) := by decide +kernel
theorem dX5_make_142 : decode cX5_make 142 = .ok (.getfield 19, 3) := by decide +kernel
theorem dX5_make_145 : decode cX5_make 145 = .ok (.iload 6, 2) := by decide +kernel
theorem dX5_make_147 : decode cX5_make 147 = .ok (.iload 5, 2) := by decide +kernel
theorem dX5_make_149 : decode cX5_make 149 = .ok (.iastore, 1) := by decide +kernel
theorem dX5_make_150 : decode cX5_make 150 = .ok (.aload_n 0, 1) := by decide +kernel
theorem dX5_make_151 : decode cX5_make 151 = .ok (.dup, 1) := by decide +kernel
theorem dX5_make_152 : decode cX5_make 152 = .ok (.getfield 69, 3) := by decide +kernel
end
section
theorem dX5_make_155 : decode cX5_make 155 = .ok (.iconst 1, 1) := by decide +kernel
theorem dX5_make_156 : decode cX5_make 156 = .ok (.iadd, 1) := by decide +kernel
theorem dX5_make_157 : decode cX5_make 157 = .ok (.putfield 69, 3) := by decide +kernel
theorem dX5_make_160 : decode cX5_make 160 = .ok (.aload_n 0, 1) := by decide +kernel
theorem dX5_make_161 : decode cX5_make 161 = .ok (.getfield 22, 3) := by decide +kernel
theorem dX5_make_164 : decode cX5_make 164 = .ok (.iload_n 1, 1) := by decide +kernel
theorem dX5_make_165 : decode cX5_make 165 = .ok (.aload_n 0, 1) := by decide +kernel
theorem dX5_make_166 : decode cX5_make 166 = .ok (.getfield 22, 3) := by decide +kernel
theorem dX5_make_169 : decode cX5_make 169 = .ok (.iload_n 1, 1) := by decide +kernel
theorem dX5_make_170 : decode cX5_make 170 = .ok (.laload, 1) := by decide +kernel
theorem dX5_make_171 : decode cX5_make 171 = .ok (.lconst 1, 1) := by decide +kernel
theorem dX5_make_172 : decode cX5_make 172 = .ok (.iload 6, 2) := by decide +kernel
theorem dX5_make_174 : decode cX5_make 174 = .ok (.lshl, 1) := by decide +kernel
theorem dX5_make_175 : decode cX5_make 175 = .ok (.lor, 1) := by decide +kernel
theorem dX5_make_176 : decode cX5_make 176 = .ok (.lastore, 1) := by decide +kernel
theorem dX5_make_177 : decode cX5_make 177 = .ok (.iload 6, 2) := by decide +kernel
theorem dX5_make_179 : decode cX5_make 179 = .ok (.ireturn, 1) := by decide +kernel
theorem dX5_entry_0 : decode cX5_entry 0 = .ok (.aload_n 0, 1) := by decide +kernel
theorem dX5_entry_1 : decode cX5_entry 1 = .ok (.iload_n 1, 1) := by decide +kernel
theorem dX5_entry_2 : decode cX5_entry 2 = .ok (.iload_n 2, 1) := by decide +kernel
theorem dX5_entry_3 : decode cX5_entry 3 = .ok (.invokevirtual 73, 3) := by decide +kernel
theorem dX5_entry_6 : decode cX5_entry 6 = .ok (.ifCond .eq 17, 3) := by decide +kernel
theorem dX5_entry_9 : decode cX5_entry 9 = .ok (.aload_n 0, 1) := by decide +kernel
theorem dX5_entry_10 : decode cX5_entry 10 = .ok (.getfield 7, 3) := by decide +kernel
theorem dX5_entry_13 : decode cX5_entry 13 = .ok (.iload_n 2, 1) := by decide +kernel
theorem dX5_entry_14 : decode cX5_entry 14 = .ok (.iaload, 1) := by decide +kernel
theorem dX5_entry_15 : decode cX5_entry 15 = .ok (.iconst 2, 1) := by decide +kernel
theorem dX5_entry_16 : decode cX5_entry 16 = .ok (.if_icmp .ge 7, 3) := by decide +kernel
theorem dX5_entry_19 : decode cX5_entry 19 = .ok (.iconst 1, 1) := by decide +kernel
theorem dX5_entry_20 : decode cX5_entry 20 = .ok (.goto 4, 3) := by decide +kernel
theorem dX5_entry_23 : decode cX5_entry 23 = .ok (.iconst 0, 1) := by decide +kernel
theorem dX5_entry_24 : decode cX5_entry 24 = .ok (.ireturn, 1) := by decide +kernel
theorem dX5_blob_0 : decode cX5_blob 0 = .ok (.iload_n 1, 1) := by decide +kernel
theorem dX5_blob_1 : decode cX5_blob 1 = .ok (.invokestatic 90, 3) := by decide +kernel
theorem dX5_blob_4 : decode cX5_blob 4 = .ok (.ifCond .ne 5, 3) := by decide +kernel
theorem dX5_blob_7 : decode cX5_blob 7 = .ok (.iconst (-1), 1) := by decide +kernel
theorem dX5_blob_8 : decode cX5_blob 8 = .ok (.ireturn, 1) := by decide +kernel
theorem dX5_blob_9 : decode cX5_blob 9 = .ok (.aload_n 0, 1) := by decide +kernel
theorem dX5_blob_10 : decode cX5_blob 10 = .ok (.getfield 29, 3) := by decide +kernel
theorem dX5_blob_13 : decode cX5_blob 13 = .ok (.iload_n 1, 1) := by decide +kernel
theorem dX5_blob_14 : decode cX5_blob 14 = .ok (.baload, 1) := by decide +kernel
theorem dX5_blob_15 : decode cX5_blob 15 = .ok (.ifCond .eq 8, 3) := by decide +kernel
theorem dX5_blob_18 : decode cX5_blob 18 = .ok (.bipush (-2), 2) := by decide +kernel
theorem dX5_blob_20 : decode cX5_blob 20 = .ok (.goto 12, 3) := by decide +kernel
theorem dX5_blob_23 : decode cX5_blob 23 = .ok (.aload_n 0, 1) := by decide +kernel
theorem dX5_blob_24 : decode cX5_blob 24 = .ok (.iload_n 1, 1) := by decide +kernel
theorem dX5_blob_25 : decode cX5_blob 25 = .ok (.iconst 0, 1) := by decide +kernel
theorem dX5_blob_26 : decode cX5_blob 26 = .ok (.iload_n 2, 1) := by decide +kernel
theorem dX5_blob_27 : decode cX5_blob 27 = .ok (.iconst (-1), 1) := by decide +kernel
theorem dX5_blob_28 : decode cX5_blob 28 = .ok (.iconst (-1), 1) := by decide +kernel
theorem dX5_blob_29 : decode cX5_blob 29 = .ok (.invokevirtual 93, 3) := by decide +kernel
theorem dX5_blob_32 : decode cX5_blob 32 = .ok (.ireturn, 1) := by decide +kernel
theorem dX5_tree_0 : decode cX5_tree 0 = .ok (.iload_n 1, 1) := by decide +kernel
theorem dX5_tree_1 : decode cX5_tree 1 = .ok (.invokestatic 90, 3) := by decide +kernel
theorem dX5_tree_4 : decode cX5_tree 4 = .ok (.ifCond .ne 5, 3) := by decide +kernel
theorem dX5_tree_7 : decode cX5_tree 7 = .ok (.iconst (-1), 1) := by decide +kernel
theorem dX5_tree_8 : decode cX5_tree 8 = .ok (.ireturn, 1) := by decide +kernel
theorem dX5_tree_9 : decode cX5_tree 9 = .ok (.aload_n 0, 1) := by decide +kernel
theorem dX5_tree_10 : decode cX5_tree 10 = .ok (.getfield 29, 3) := by decide +kernel
theorem dX5_tree_13 : decode cX5_tree 13 = .ok (.iload_n 1, 1) := by decide +kernel
theorem dX5_tree_14 : decode cX5_tree 14 = .ok (.baload, 1) := by decide +kernel
theorem dX5_tree_15 : decode cX5_tree 15 = .ok (.ifCond .eq 6, 3) := by decide +kernel
theorem dX5_tree_18 : decode cX5_tree 18 = .ok (.bipush (-2), 2) := by decide +kernel
theorem dX5_tree_20 : decode cX5_tree 20 = .ok (.ireturn, 1) := by decide +kernel
theorem dX5_tree_21 : decode cX5_tree 21 = .ok (.aload_n 0, 1) := by decide +kernel
theorem dX5_tree_22 : decode cX5_tree 22 = .ok (.iload_n 1, 1) := by decide +kernel
theorem dX5_tree_23 : decode cX5_tree 23 = .ok (.iload_n 2, 1) := by decide +kernel
theorem dX5_tree_24 : decode cX5_tree 24 = .ok (.invokevirtual 97, 3) := by decide +kernel
theorem dX5_tree_27 : decode cX5_tree 27 = .ok (.ifCond .eq 17, 3) := by decide +kernel
theorem dX5_tree_30 : decode cX5_tree 30 = .ok (.iload_n 3, 1) := by decide +kernel
theorem dX5_tree_31 : decode cX5_tree 31 = .ok (.iconst (-1), 1) := by decide +kernel
theorem dX5_tree_32 : decode cX5_tree 32 = .ok (.if_icmp .eq 14, 3) := by decide +kernel
theorem dX5_tree_35 : decode cX5_tree 35 = .ok (.aload_n 0, 1) := by decide +kernel
theorem dX5_tree_36 : decode cX5_tree 36 = .ok (.iload_n 1, 1) := by decide +kernel
theorem dX5_tree_37 : decode cX5_tree 37 = .ok (.iload_n 3, 1) := by decide +kernel
theorem dX5_tree_38 : decode cX5_tree 38 = .ok (.invokevirtual 97, 3) := by decide +kernel
theorem dX5_tree_41 : decode cX5_tree 41 = .ok (.ifCond .ne 5, 3) := by decide +kernel
theorem dX5_tree_44 : decode cX5_tree 44 = .ok (.iconst (-1), 1) := by decide +kernel
theorem dX5_tree_45 : decode cX5_tree 45 = .ok (.ireturn, 1) := by decide +kernel
theorem dX5_tree_46 : decode cX5_tree 46 = .ok (.aload_n 0, 1) := by decide +kernel
theorem dX5_tree_47 : decode cX5_tree 47 = .ok (.iload_n 1, 1) := by decide +kernel
theorem dX5_tree_48 : decode cX5_tree 48 = .ok (.iconst 1, 1) := by decide +kernel
theorem dX5_tree_49 : decode cX5_tree 49 = .ok (.iload_n 2, 1) := by decide +kernel
theorem dX5_tree_50 : decode cX5_tree 50 = .ok (.iload_n 3, 1) := by decide +kernel
theorem dX5_tree_51 : decode cX5_tree 51 = .ok (.iconst (-1), 1) := by decide +kernel
theorem dX5_tree_52 : decode cX5_tree 52 = .ok (.invokevirtual 93, 3) := by decide +kernel
theorem dX5_tree_55 : decode cX5_tree 55 = .ok (.ireturn, 1) := by decide +kernel
theorem dX5_commit_0 : decode cX5_commit 0 = .ok (.iload_n 1, 1) := by decide +kernel
theorem dX5_commit_1 : decode cX5_commit 1 = .ok (.invokestatic 90, 3) := by decide +kernel
theorem dX5_commit_4 : decode cX5_commit 4 = .ok (.ifCond .eq 12, 3) := by decide +kernel
theorem dX5_commit_7 : decode cX5_commit 7 = .ok (.iload_n 2, 1) := by decide +kernel
theorem dX5_commit_8 : decode cX5_commit 8 = .ok (.ifCond .lt 8, 3) := by decide +kernel
theorem dX5_commit_11 : decode cX5_commit 11 = .ok (.iload_n 2, 1) := by decide +kernel
theorem dX5_commit_12 : decode cX5_commit 12 = .ok (.iconst 3, 1) := by decide +kernel
theorem dX5_commit_13 : decode cX5_commit 13 = .ok (.if_icmp .le 5, 3) := by decide +kernel
theorem dX5_commit_16 : decode cX5_commit 16 = .ok (.iconst (-1), 1) := by decide +kernel
theorem dX5_commit_17 : decode cX5_commit 17 = .ok (.ireturn, 1) := by decide +kernel
theorem dX5_commit_18 : decode cX5_commit 18 = .ok (.aload_n 0, 1) := by decide +kernel
theorem dX5_commit_19 : decode cX5_commit 19 = .ok (.getfield 29, 3) := by decide +kernel
theorem dX5_commit_22 : decode cX5_commit 22 = .ok (.iload_n 1, 1) := by decide +kernel
theorem dX5_commit_23 : decode cX5_commit 23 = .ok (.baload, 1) := by decide +kernel
theorem dX5_commit_24 : decode cX5_commit 24 = .ok (.ifCond .eq 6, 3) := by decide +kernel
theorem dX5_commit_27 : decode cX5_commit 27 = .ok (.bipush (-2), 2) := by decide +kernel
theorem dX5_commit_29 : decode cX5_commit 29 = .ok (.ireturn, 1) := by decide +kernel
theorem dX5_commit_30 : decode cX5_commit 30 = .ok (.aload_n 0, 1) := by decide +kernel
theorem dX5_commit_31 : decode cX5_commit 31 = .ok (.getfield 26, 3) := by decide +kernel
theorem dX5_commit_34 : decode cX5_commit 34 = .ok (.bipush 8, 2) := by decide +kernel
theorem dX5_commit_36 : decode cX5_commit 36 = .ok (.iload_n 1, 1) := by decide +kernel
theorem dX5_commit_37 : decode cX5_commit 37 = .ok (.imul, 1) := by decide +kernel
theorem dX5_commit_38 : decode cX5_commit 38 = .ok (.iload_n 2, 1) := by decide +kernel
theorem dX5_commit_39 : decode cX5_commit 39 = .ok (.iadd, 1) := by decide +kernel
theorem dX5_commit_40 : decode cX5_commit 40 = .ok (.iaload, 1) := by decide +kernel
theorem dX5_commit_41 : decode cX5_commit 41 = .ok (.iconst 1, 1) := by decide +kernel
theorem dX5_commit_42 : decode cX5_commit 42 = .ok (.isub, 1) := by decide +kernel
theorem dX5_commit_43 : decode cX5_commit 43 = .ok (.istore 5, 2) := by decide +kernel
theorem dX5_commit_45 : decode cX5_commit 45 = .ok (.aload_n 0, 1) := by decide +kernel
theorem dX5_commit_46 : decode cX5_commit 46 = .ok (.iload_n 1, 1) := by decide +kernel
theorem dX5_commit_47 : decode cX5_commit 47 = .ok (.iload_n 3, 1) := by decide +kernel
theorem dX5_commit_48 : decode cX5_commit 48 = .ok (.invokevirtual 73, 3) := by decide +kernel
theorem dX5_commit_51 : decode cX5_commit 51 = .ok (.ifCond .eq 13, 3) := by decide +kernel
theorem dX5_commit_54 : decode cX5_commit 54 = .ok (.aload_n 0, 1) := by decide +kernel
theorem dX5_commit_55 : decode cX5_commit 55 = .ok (.getfield 7, 3) := by decide +kernel
theorem dX5_commit_58 : decode cX5_commit 58 = .ok (.iload_n 3, 1) := by decide +kernel
theorem dX5_commit_59 : decode cX5_commit 59 = .ok (.iaload, 1) := by decide +kernel
theorem dX5_commit_60 : decode cX5_commit 60 = .ok (.iconst 1, 1) := by decide +kernel
theorem dX5_commit_61 : decode cX5_commit 61 = .ok (.if_icmp .eq 5, 3) := by decide +kernel
theorem dX5_commit_64 : decode cX5_commit 64 = .ok (.iconst (-1), 1) := by decide +kernel
theorem dX5_commit_65 : decode cX5_commit 65 = .ok (.ireturn, 1) := by decide +kernel
theorem dX5_commit_66 : decode cX5_commit 66 = .ok (.iload 4, 2) := by decide +kernel
theorem dX5_commit_68 : decode cX5_commit 68 = .ok (.iconst (-1), 1) := by decide +kernel
theorem dX5_commit_69 : decode cX5_commit 69 = .ok (.if_icmp .eq 33, 3) := by decide +kernel
theorem dX5_commit_72 : decode cX5_commit 72 = .ok (.aload_n 0, 1) := by decide +kernel
theorem dX5_commit_73 : decode cX5_commit 73 = .ok (.iload_n 1, 1) := by decide +kernel
theorem dX5_commit_74 : decode cX5_commit 74 = .ok (.iload 4, 2) := by decide +kernel
theorem dX5_commit_76 : decode cX5_commit 76 = .ok (.invokevirtual 73, 3) := by decide +kernel
theorem dX5_commit_79 : decode cX5_commit 79 = .ok (.ifCond .eq 21, 3) := by decide +kernel
theorem dX5_commit_82 : decode cX5_commit 82 = .ok (.aload_n 0, 1) := by decide +kernel
theorem dX5_commit_83 : decode cX5_commit 83 = .ok (.getfield 7, 3) := by decide +kernel
theorem dX5_commit_86 : decode cX5_commit 86 = .ok (.iload 4, 2) := by decide +kernel
theorem dX5_commit_88 : decode cX5_commit 88 = .ok (.iaload, 1) := by decide +kernel
theorem dX5_commit_89 : decode cX5_commit 89 = .ok (.iconst 2, 1) := by decide +kernel
theorem dX5_commit_90 : decode cX5_commit 90 = .ok (.if_icmp .ne 10, 3) := by decide +kernel
theorem dX5_commit_93 : decode cX5_commit 93 = .ok (.iload 4, 2) := by decide +kernel
theorem dX5_commit_95 : decode cX5_commit 95 = .ok (.iload 5, 2) := by decide +kernel
theorem dX5_commit_97 : decode cX5_commit 97 = .ok (.if_icmp .ne 5, 3) := by decide +kernel
theorem dX5_commit_100 : decode cX5_commit 100 = .ok (.iconst (-1), 1) := by decide +kernel
theorem dX5_commit_101 : decode cX5_commit 101 = .ok (.ireturn, 1) := by decide +kernel
theorem dX5_commit_102 : decode cX5_commit 102 = .ok (.aload_n 0, 1) := by decide +kernel
theorem dX5_commit_103 : decode cX5_commit 103 = .ok (.iload_n 1, 1) := by decide +kernel
theorem dX5_commit_104 : decode cX5_commit 104 = .ok (.iconst 2, 1) := by decide +kernel
theorem dX5_commit_105 : decode cX5_commit 105 = .ok (.iload_n 3, 1) := by decide +kernel
theorem dX5_commit_106 : decode cX5_commit 106 = .ok (.iload 5, 2) := by decide +kernel
theorem dX5_commit_108 : decode cX5_commit 108 = .ok (.ifCond .lt 8, 3) := by decide +kernel
theorem dX5_commit_111 : decode cX5_commit 111 = .ok (.iload 5, 2) := by decide +kernel
theorem dX5_commit_113 : decode cX5_commit 113 = .ok (.goto 5, 3) := by decide +kernel
theorem dX5_commit_116 : decode cX5_commit 116 = .ok (.iload 4, 2) := by decide +kernel
theorem dX5_commit_118 : decode cX5_commit 118 = .ok (.iload 5, 2) := by decide +kernel
theorem dX5_commit_120 : decode cX5_commit 120 = .ok (.ifCond .lt 8, 3) := by decide +kernel
theorem dX5_commit_123 : decode cX5_commit 123 = .ok (.iload 4, 2) := by decide +kernel
theorem dX5_commit_125 : decode cX5_commit 125 = .ok (.goto 4, 3) := by decide +kernel
theorem dX5_commit_128 : decode cX5_commit 128 = .ok (.iconst (-1), 1) := by decide +kernel
theorem dX5_commit_129 : decode cX5_commit 129 = .ok (.invokevirtual 93, 3) := by decide +kernel
theorem dX5_commit_132 : decode cX5_commit 132 = .ok (.istore 6, 2) := by decide +kernel
theorem dX5_commit_134 : decode cX5_commit 134 = .ok (.iload 6, 2) := by decide +kernel
theorem dX5_commit_136 : decode cX5_commit 136 = .ok (.ifCond .ge 6, 3) := by decide +kernel
theorem dX5_commit_139 : decode cX5_commit 139 = .ok (.iload 6, 2) := by decide +kernel
theorem dX5_commit_141 : decode cX5_commit 141 = .ok (.ireturn, 1) := by decide +kernel
theorem dX5_commit_142 : decode cX5_commit 142 = .ok (.aload_n 0, 1) := by decide +kernel
theorem dX5_commit_143 : decode cX5_commit 143 = .ok (.iconst 0, 1) := by decide +kernel
theorem dX5_commit_144 : decode cX5_commit 144 = .ok (.putfield 81, 3) := by decide +kernel
theorem dX5_commit_147 : decode cX5_commit 147 = .ok (.aload_n 0, 1) := by decide +kernel
theorem dX5_commit_148 : decode cX5_commit 148 = .ok (.iload_n 2, 1) := by decide +kernel
theorem dX5_commit_149 : decode cX5_commit 149 = .ok (.iload 6, 2) := by decide +kernel
theorem dX5_commit_151 : decode cX5_commit 151 = .ok (.iconst 1, 1) := by decide +kernel
theorem dX5_commit_152 : decode cX5_commit 152 = .ok (.iadd, 1) := by decide +kernel
theorem dX5_commit_153 : decode cX5_commit 153 = .ok (.invokevirtual 100, 3) := by decide +kernel
theorem dX5_commit_156 : decode cX5_commit 156 = .ok (.aload_n 0, 1) := by decide +kernel
theorem dX5_commit_157 : decode cX5_commit 157 = .ok (.iload_n 1, 1) := by decide +kernel
theorem dX5_commit_158 : decode cX5_commit 158 = .ok (.invokevirtual 104, 3) := by decide +kernel
theorem dX5_commit_161 : decode cX5_commit 161 = .ok (.ifCond .eq 8, 3) := by decide +kernel
theorem dX5_commit_164 : decode cX5_commit 164 = .ok (.iload 6, 2) := by decide +kernel
theorem dX5_commit_166 : decode cX5_commit 166 = .ok (.goto 5, 3) := by decide +kernel
theorem dX5_commit_169 : decode cX5_commit 169 = .ok (.bipush (-2), 2) := by decide +kernel
theorem dX5_commit_171 : decode cX5_commit 171 = .ok (.ireturn, 1) := by decide +kernel
theorem dX5_point_0 : decode cX5_point 0 = .ok (.iload_n 1, 1) := by decide +kernel
theorem dX5_point_1 : decode cX5_point 1 = .ok (.invokestatic 90, 3) := by decide +kernel
theorem dX5_point_4 : decode cX5_point 4 = .ok (.ifCond .eq 12, 3) := by decide +kernel
theorem dX5_point_7 : decode cX5_point 7 = .ok (.iload_n 2, 1) := by decide +kernel
theorem dX5_point_8 : decode cX5_point 8 = .ok (.ifCond .lt 8, 3) := by decide +kernel
theorem dX5_point_11 : decode cX5_point 11 = .ok (.iload_n 2, 1) := by decide +kernel
theorem dX5_point_12 : decode cX5_point 12 = .ok (.iconst 3, 1) := by decide +kernel
theorem dX5_point_13 : decode cX5_point 13 = .ok (.if_icmp .le 5, 3) := by decide +kernel
theorem dX5_point_16 : decode cX5_point 16 = .ok (.iconst (-1), 1) := by decide +kernel
theorem dX5_point_17 : decode cX5_point 17 = .ok (.ireturn, 1) := by decide +kernel
theorem dX5_point_18 : decode cX5_point 18 = .ok (.aload_n 0, 1) := by decide +kernel
theorem dX5_point_19 : decode cX5_point 19 = .ok (.getfield 29, 3) := by decide +kernel
theorem dX5_point_22 : decode cX5_point 22 = .ok (.iload_n 1, 1) := by decide +kernel
theorem dX5_point_23 : decode cX5_point 23 = .ok (.baload, 1) := by decide +kernel
theorem dX5_point_24 : decode cX5_point 24 = .ok (.ifCond .eq 6, 3) := by decide +kernel
theorem dX5_point_27 : decode cX5_point 27 = .ok (.bipush (-2), 2) := by decide +kernel
theorem dX5_point_29 : decode cX5_point 29 = .ok (.ireturn, 1) := by decide +kernel
theorem dX5_point_30 : decode cX5_point 30 = .ok (.iload_n 3, 1) := by decide +kernel
theorem dX5_point_31 : decode cX5_point 31 = .ok (.iconst (-1), 1) := by decide +kernel
theorem dX5_point_32 : decode cX5_point 32 = .ok (.if_icmp .eq 24, 3) := by decide +kernel
theorem dX5_point_35 : decode cX5_point 35 = .ok (.aload_n 0, 1) := by decide +kernel
theorem dX5_point_36 : decode cX5_point 36 = .ok (.iload_n 1, 1) := by decide +kernel
theorem dX5_point_37 : decode cX5_point 37 = .ok (.iload_n 3, 1) := by decide +kernel
theorem dX5_point_38 : decode cX5_point 38 = .ok (.invokevirtual 73, 3) := by decide +kernel
theorem dX5_point_41 : decode cX5_point 41 = .ok (.ifCond .eq 13, 3) := by decide +kernel
theorem dX5_point_44 : decode cX5_point 44 = .ok (.aload_n 0, 1) := by decide +kernel
theorem dX5_point_45 : decode cX5_point 45 = .ok (.getfield 7, 3) := by decide +kernel
theorem dX5_point_48 : decode cX5_point 48 = .ok (.iload_n 3, 1) := by decide +kernel
theorem dX5_point_49 : decode cX5_point 49 = .ok (.iaload, 1) := by decide +kernel
theorem dX5_point_50 : decode cX5_point 50 = .ok (.iconst 2, 1) := by decide +kernel
theorem dX5_point_51 : decode cX5_point 51 = .ok (.if_icmp .eq 5, 3) := by decide +kernel
theorem dX5_point_54 : decode cX5_point 54 = .ok (.iconst (-1), 1) := by decide +kernel
theorem dX5_point_55 : decode cX5_point 55 = .ok (.ireturn, 1) := by decide +kernel
theorem dX5_point_56 : decode cX5_point 56 = .ok (.aload_n 0, 1) := by decide +kernel
theorem dX5_point_57 : decode cX5_point 57 = .ok (.getfield 26, 3) := by decide +kernel
theorem dX5_point_60 : decode cX5_point 60 = .ok (.bipush 8, 2) := by decide +kernel
theorem dX5_point_62 : decode cX5_point 62 = .ok (.iload_n 1, 1) := by decide +kernel
theorem dX5_point_63 : decode cX5_point 63 = .ok (.imul, 1) := by decide +kernel
theorem dX5_point_64 : decode cX5_point 64 = .ok (.iload_n 2, 1) := by decide +kernel
theorem dX5_point_65 : decode cX5_point 65 = .ok (.iadd, 1) := by decide +kernel
theorem dX5_point_66 : decode cX5_point 66 = .ok (.iaload, 1) := by decide +kernel
theorem dX5_point_67 : decode cX5_point 67 = .ok (.iload_n 3, 1) := by decide +kernel
theorem dX5_point_68 : decode cX5_point 68 = .ok (.iconst 1, 1) := by decide +kernel
theorem dX5_point_69 : decode cX5_point 69 = .ok (.iadd, 1) := by decide +kernel
theorem dX5_point_70 : decode cX5_point 70 = .ok (.if_icmp .ne 5, 3) := by decide +kernel
theorem dX5_point_73 : decode cX5_point 73 = .ok (.iconst 0, 1) := by decide +kernel
theorem dX5_point_74 : decode cX5_point 74 = .ok (.ireturn, 1) := by decide +kernel
theorem dX5_point_75 : decode cX5_point 75 = .ok (.aload_n 0, 1) := by decide +kernel
theorem dX5_point_76 : decode cX5_point 76 = .ok (.iconst 0, 1) := by decide +kernel
theorem dX5_point_77 : decode cX5_point 77 = .ok (.putfield 81, 3) := by decide +kernel
theorem dX5_point_80 : decode cX5_point 80 = .ok (.aload_n 0, 1) := by decide +kernel
theorem dX5_point_81 : decode cX5_point 81 = .ok (.iload_n 2, 1) := by decide +kernel
theorem dX5_point_82 : decode cX5_point 82 = .ok (.iload_n 3, 1) := by decide +kernel
theorem dX5_point_83 : decode cX5_point 83 = .ok (.iconst 1, 1) := by decide +kernel
theorem dX5_point_84 : decode cX5_point 84 = .ok (.iadd, 1) := by decide +kernel
theorem dX5_point_85 : decode cX5_point 85 = .ok (.invokevirtual 100, 3) := by decide +kernel
theorem dX5_point_88 : decode cX5_point 88 = .ok (.aload_n 0, 1) := by decide +kernel
theorem dX5_point_89 : decode cX5_point 89 = .ok (.iload_n 1, 1) := by decide +kernel
theorem dX5_point_90 : decode cX5_point 90 = .ok (.invokevirtual 104, 3) := by decide +kernel
theorem dX5_point_93 : decode cX5_point 93 = .ok (.ifCond .eq 7, 3) := by decide +kernel
theorem dX5_point_96 : decode cX5_point 96 = .ok (.iconst 1, 1) := by decide +kernel
theorem dX5_point_97 : decode cX5_point 97 = .ok (.goto 5, 3) := by decide +kernel
theorem dX5_point_100 : decode cX5_point 100 = .ok (.bipush (-2), 2) := by decide +kernel
theorem dX5_point_102 : decode cX5_point 102 = .ok (.ireturn, 1) := by decide +kernel
theorem dX5_place_0 : decode cX5_place 0 = .ok (.aload_n 0, 1) := by decide +kernel
theorem dX5_place_1 : decode cX5_place 1 = .ok (.getfield 107, 3) := by decide +kernel
theorem dX5_place_4 : decode cX5_place 4 = .ok (.istore_n 2, 1) := by decide +kernel
theorem dX5_place_5 : decode cX5_place 5 = .ok (.aload_n 0, 1) := by decide +kernel
theorem dX5_place_6 : decode cX5_place 6 = .ok (.getfield 57, 3) := by decide +kernel
theorem dX5_place_9 : decode cX5_place 9 = .ok (.iload_n 2, 1) := by decide +kernel
theorem dX5_place_10 : decode cX5_place 10 = .ok (.iload_n 1, 1) := by decide +kernel
theorem dX5_place_11 : decode cX5_place 11 = .ok (.iastore, 1) := by decide +kernel
theorem dX5_place_12 : decode cX5_place 12 = .ok (.aload_n 0, 1) := by decide +kernel
theorem dX5_place_13 : decode cX5_place 13 = .ok (.getfield 60, 3) := by decide +kernel
theorem dX5_place_16 : decode cX5_place 16 = .ok (.iload_n 2, 1) := by decide +kernel
theorem dX5_place_17 : decode cX5_place 17 = .ok (.bipush (-4), 2) := by decide +kernel
theorem dX5_place_19 : decode cX5_place 19 = .ok (.iastore, 1) := by decide +kernel
theorem dX5_place_20 : decode cX5_place 20 = .ok (.aload_n 0, 1) := by decide +kernel
theorem dX5_place_21 : decode cX5_place 21 = .ok (.getfield 63, 3) := by decide +kernel
theorem dX5_place_24 : decode cX5_place 24 = .ok (.iload_n 2, 1) := by decide +kernel
theorem dX5_place_25 : decode cX5_place 25 = .ok (.iconst 0, 1) := by decide +kernel
theorem dX5_place_26 : decode cX5_place 26 = .ok (.iastore, 1) := by decide +kernel
theorem dX5_place_27 : decode cX5_place 27 = .ok (.aload_n 0, 1) := by decide +kernel
theorem dX5_place_28 : decode cX5_place 28 = .ok (.getfield 66, 3) := by decide +kernel
theorem dX5_place_31 : decode cX5_place 31 = .ok (.iload_n 2, 1) := by decide +kernel
theorem dX5_place_32 : decode cX5_place 32 = .ok (.aload_n 0, 1) := by decide +kernel
theorem dX5_place_33 : decode cX5_place 33 = .ok (.getfield 7, 3) := by decide +kernel
theorem dX5_place_36 : decode cX5_place 36 = .ok (.iload_n 1, 1) := by decide +kernel
theorem dX5_place_37 : decode cX5_place 37 = .ok (.iaload, 1) := by decide +kernel
theorem dX5_place_38 : decode cX5_place 38 = .ok (.ifCond .ne 8, 3) := by decide +kernel
theorem dX5_place_41 : decode cX5_place 41 = .ok (.bipush 8, 2) := by decide +kernel
theorem dX5_place_43 : decode cX5_place 43 = .ok (.goto 34, 3) := by decide +kernel
theorem dX5_place_46 : decode cX5_place 46 = .ok (.iconst 2, 1) := by decide +kernel
theorem dX5_place_47 : decode cX5_place 47 = .ok (.aload_n 0, 1) := by decide +kernel
theorem dX5_place_48 : decode cX5_place 48 = .ok (.getfield 16, 3) := by decide +kernel
theorem dX5_place_51 : decode cX5_place 51 = .ok (.iload_n 1, 1) := by decide +kernel
theorem dX5_place_52 : decode cX5_place 52 = .ok (.iaload, 1) := by decide +kernel
theorem dX5_place_53 : decode cX5_place 53 = .ok (.ifCond .lt 7, 3) := by decide +kernel
theorem dX5_place_56 : decode cX5_place 56 = .ok (.iconst 1, 1) := by decide +kernel
theorem dX5_place_57 : decode cX5_place 57 = .ok (.goto 4, 3) := by decide +kernel
theorem dX5_place_60 : decode cX5_place 60 = .ok (.iconst 0, 1) := by decide +kernel
theorem dX5_place_61 : decode cX5_place 61 = .ok (.iadd, 1) := by decide +kernel
theorem dX5_place_62 : decode cX5_place 62 = .ok (.aload_n 0, 1) := by decide +kernel
theorem dX5_place_63 : decode cX5_place 63 = .ok (.getfield 19, 3) := by decide +kernel
theorem dX5_place_66 : decode cX5_place 66 = .ok (.iload_n 1, 1) := by decide +kernel
theorem dX5_place_67 : decode cX5_place 67 = .ok (.iaload, 1) := by decide +kernel
theorem dX5_place_68 : decode cX5_place 68 = .ok (.ifCond .lt 7, 3) := by decide +kernel
theorem dX5_place_71 : decode cX5_place 71 = .ok (.iconst 1, 1) := by decide +kernel
theorem dX5_place_72 : decode cX5_place 72 = .ok (.goto 4, 3) := by decide +kernel
theorem dX5_place_75 : decode cX5_place 75 = .ok (.iconst 0, 1) := by decide +kernel
theorem dX5_place_76 : decode cX5_place 76 = .ok (.iadd, 1) := by decide +kernel
theorem dX5_place_77 : decode cX5_place 77 = .ok (.iastore, 1) := by decide +kernel
theorem dX5_place_78 : decode cX5_place 78 = .ok (.aload_n 0, 1) := by decide +kernel
theorem dX5_place_79 : decode cX5_place 79 = .ok (.dup, 1) := by decide +kernel
theorem dX5_place_80 : decode cX5_place 80 = .ok (.getfield 107, 3) := by decide +kernel
theorem dX5_place_83 : decode cX5_place 83 = .ok (.iconst 1, 1) := by decide +kernel
theorem dX5_place_84 : decode cX5_place 84 = .ok (.iadd, 1) := by decide +kernel
theorem dX5_place_85 : decode cX5_place 85 = .ok (.putfield 107, 3) := by decide +kernel
theorem dX5_place_88 : decode cX5_place 88 = .ok (.iload_n 2, 1) := by decide +kernel
theorem dX5_place_89 : decode cX5_place 89 = .ok (.iconst 1, 1) := by decide +kernel
theorem dX5_place_90 : decode cX5_place 90 = .ok (.isub, 1) := by decide +kernel
theorem dX5_place_91 : decode cX5_place 91 = .ok (.istore_n 3, 1) := by decide +kernel
theorem dX5_place_92 : decode cX5_place 92 = .ok (.iload_n 3, 1) := by decide +kernel
theorem dX5_place_93 : decode cX5_place 93 = .ok (.ifCond .lt 154, 3) := by decide +kernel
theorem dX5_place_96 : decode cX5_place 96 = .ok (.iload_n 3, 1) := by decide +kernel
theorem dX5_place_97 : decode cX5_place 97 = .ok (.iload_n 2, 1) := by decide +kernel
theorem dX5_place_98 : decode cX5_place 98 = .ok (.iconst 3, 1) := by decide +kernel
theorem dX5_place_99 : decode cX5_place 99 = .ok (.isub, 1) := by decide +kernel
theorem dX5_place_100 : decode cX5_place 100 = .ok (.if_icmp .lt 147, 3) := by decide +kernel
theorem dX5_place_103 : decode cX5_place 103 = .ok (.aload_n 0, 1) := by decide +kernel
theorem dX5_place_104 : decode cX5_place 104 = .ok (.getfield 7, 3) := by decide +kernel
theorem dX5_place_107 : decode cX5_place 107 = .ok (.iload_n 1, 1) := by decide +kernel
theorem dX5_place_108 : decode cX5_place 108 = .ok (.iaload, 1) := by decide +kernel
theorem dX5_place_109 : decode cX5_place 109 = .ok (.ifCond .ne 132, 3) := by decide +kernel
theorem dX5_place_112 : decode cX5_place 112 = .ok (.aload_n 0, 1) := by decide +kernel
theorem dX5_place_113 : decode cX5_place 113 = .ok (.getfield 7, 3) := by decide +kernel
theorem dX5_place_116 : decode cX5_place 116 = .ok (.aload_n 0, 1) := by decide +kernel
theorem dX5_place_117 : decode cX5_place 117 = .ok (.getfield 57, 3) := by decide +kernel
theorem dX5_place_120 : decode cX5_place 120 = .ok (.iload_n 3, 1) := by decide +kernel
theorem dX5_place_121 : decode cX5_place 121 = .ok (.iaload, 1) := by decide +kernel
theorem dX5_place_122 : decode cX5_place 122 = .ok (.iaload, 1) := by decide +kernel
theorem dX5_place_123 : decode cX5_place 123 = .ok (.ifCond .ne 118, 3) := by decide +kernel
theorem dX5_place_126 : decode cX5_place 126 = .ok (.aload_n 0, 1) := by decide +kernel
theorem dX5_place_127 : decode cX5_place 127 = .ok (.getfield 63, 3) := by decide +kernel
theorem dX5_place_130 : decode cX5_place 130 = .ok (.iload_n 3, 1) := by decide +kernel
theorem dX5_place_131 : decode cX5_place 131 = .ok (.iaload, 1) := by decide +kernel
theorem dX5_place_132 : decode cX5_place 132 = .ok (.iconst 2, 1) := by decide +kernel
theorem dX5_place_133 : decode cX5_place 133 = .ok (.if_icmp .ge 108, 3) := by decide +kernel
theorem dX5_place_136 : decode cX5_place 136 = .ok (.iconst 2, 1) := by decide +kernel
theorem dX5_place_137 : decode cX5_place 137 = .ok (.istore 4, 2) := by decide +kernel
theorem dX5_place_139 : decode cX5_place 139 = .ok (.iconst 0, 1) := by decide +kernel
theorem dX5_place_140 : decode cX5_place 140 = .ok (.istore 5, 2) := by decide +kernel
theorem dX5_place_142 : decode cX5_place 142 = .ok (.iload 5, 2) := by decide +kernel
theorem dX5_place_144 : decode cX5_place 144 = .ok (.bipush 8, 2) := by decide +kernel
theorem dX5_place_146 : decode cX5_place 146 = .ok (.if_icmp .ge 55, 3) := by decide +kernel
theorem dX5_place_149 : decode cX5_place 149 = .ok (.iload 4, 2) := by decide +kernel
theorem dX5_place_151 : decode cX5_place 151 = .ok (.aload_n 0, 1) := by decide +kernel
theorem dX5_place_152 : decode cX5_place 152 = .ok (.getfield 13, 3) := by decide +kernel
theorem dX5_place_155 : decode cX5_place 155 = .ok (.iload_n 1, 1) := by decide +kernel
theorem dX5_place_156 : decode cX5_place 156 = .ok (.iaload, 1) := by decide +kernel
theorem dX5_place_157 : decode cX5_place 157 = .ok (.iconst 4, 1) := by decide +kernel
theorem dX5_place_158 : decode cX5_place 158 = .ok (.iload 5, 2) := by decide +kernel
theorem dX5_place_160 : decode cX5_place 160 = .ok (.imul, 1) := by decide +kernel
theorem dX5_place_161 : decode cX5_place 161 = .ok (.ishr, 1) := by decide +kernel
theorem dX5_place_162 : decode cX5_place 162 = .ok (.bipush 15, 2) := by decide +kernel
theorem dX5_place_164 : decode cX5_place 164 = .ok (.iand, 1) := by decide +kernel
theorem dX5_place_165 : decode cX5_place 165 = .ok (.aload_n 0, 1) := by decide +kernel
theorem dX5_place_166 : decode cX5_place 166 = .ok (.getfield 13, 3) := by decide +kernel
theorem dX5_place_169 : decode cX5_place 169 = .ok (.aload_n 0, 1) := by decide +kernel
theorem dX5_place_170 : decode cX5_place 170 = .ok (.getfield 57, 3) := by decide +kernel
theorem dX5_place_173 : decode cX5_place 173 = .ok (.iload_n 3, 1) := by decide +kernel
theorem dX5_place_174 : decode cX5_place 174 = .ok (.iaload, 1) := by decide +kernel
theorem dX5_place_175 : decode cX5_place 175 = .ok (.iaload, 1) := by decide +kernel
theorem dX5_place_176 : decode cX5_place 176 = .ok (.iconst 4, 1) := by decide +kernel
theorem dX5_place_177 : decode cX5_place 177 = .ok (.iload 5, 2) := by decide +kernel
theorem dX5_place_179 : decode cX5_place 179 = .ok (.imul, 1) := by decide +kernel
theorem dX5_place_180 : decode cX5_place 180 = .ok (.ishr, 1) := by decide +kernel
theorem dX5_place_181 : decode cX5_place 181 = .ok (.bipush 15, 2) := by decide +kernel
theorem dX5_place_183 : decode cX5_place 183 = .ok (.iand, 1) := by decide +kernel
theorem dX5_place_184 : decode cX5_place 184 = .ok (.if_icmp .eq 7, 3) := by decide +kernel
theorem dX5_place_187 : decode cX5_place 187 = .ok (.iconst 1, 1) := by decide +kernel
theorem dX5_place_188 : decode cX5_place 188 = .ok (.goto 4, 3) := by decide +kernel
theorem dX5_place_191 : decode cX5_place 191 = .ok (.iconst 0, 1) := by decide +kernel
theorem dX5_place_192 : decode cX5_place 192 = .ok (.iadd, 1) := by decide +kernel
theorem dX5_place_193 : decode cX5_place 193 = .ok (.istore 4, 2) := by decide +kernel
theorem dX5_place_195 : decode cX5_place 195 = .ok (.iinc 5 1, 3) := by decide +kernel
theorem dX5_place_198 : decode cX5_place 198 = .ok (.goto (-56), 3) := by decide +kernel
theorem dX5_place_201 : decode cX5_place 201 = .ok (.iload 4, 2) := by decide +kernel
theorem dX5_place_203 : decode cX5_place 203 = .ok (.aload_n 0, 1) := by decide +kernel
theorem dX5_place_204 : decode cX5_place 204 = .ok (.getfield 66, 3) := by decide +kernel
theorem dX5_place_207 : decode cX5_place 207 = .ok (.iload_n 2, 1) := by decide +kernel
theorem dX5_place_208 : decode cX5_place 208 = .ok (.iaload, 1) := by decide +kernel
theorem dX5_place_209 : decode cX5_place 209 = .ok (.if_icmp .ge 32, 3) := by decide +kernel
theorem dX5_place_212 : decode cX5_place 212 = .ok (.aload_n 0, 1) := by decide +kernel
theorem dX5_place_213 : decode cX5_place 213 = .ok (.getfield 66, 3) := by decide +kernel
theorem dX5_place_216 : decode cX5_place 216 = .ok (.iload_n 2, 1) := by decide +kernel
theorem dX5_place_217 : decode cX5_place 217 = .ok (.iload 4, 2) := by decide +kernel
theorem dX5_place_219 : decode cX5_place 219 = .ok (.iastore, 1) := by decide +kernel
theorem dX5_place_220 : decode cX5_place 220 = .ok (.aload_n 0, 1) := by decide +kernel
theorem dX5_place_221 : decode cX5_place 221 = .ok (.getfield 60, 3) := by decide +kernel
theorem dX5_place_224 : decode cX5_place 224 = .ok (.iload_n 2, 1) := by decide +kernel
theorem dX5_place_225 : decode cX5_place 225 = .ok (.iload_n 3, 1) := by decide +kernel
theorem dX5_place_226 : decode cX5_place 226 = .ok (.iastore, 1) := by decide +kernel
theorem dX5_place_227 : decode cX5_place 227 = .ok (.aload_n 0, 1) := by decide +kernel
theorem dX5_place_228 : decode cX5_place 228 = .ok (.getfield 63, 3) := by decide +kernel
theorem dX5_place_231 : decode cX5_place 231 = .ok (.iload_n 2, 1) := by decide +kernel
theorem dX5_place_232 : decode cX5_place 232 = .ok (.aload_n 0, 1) := by decide +kernel
theorem dX5_place_233 : decode cX5_place 233 = .ok (.getfield 63, 3) := by decide +kernel
theorem dX5_place_236 : decode cX5_place 236 = .ok (.iload_n 3, 1) := by decide +kernel
theorem dX5_place_237 : decode cX5_place 237 = .ok (.iaload, 1) := by decide +kernel
theorem dX5_place_238 : decode cX5_place 238 = .ok (.iconst 1, 1) := by decide +kernel
theorem dX5_place_239 : decode cX5_place 239 = .ok (.iadd, 1) := by decide +kernel
theorem dX5_place_240 : decode cX5_place 240 = .ok (.iastore, 1) := by decide +kernel
theorem dX5_place_241 : decode cX5_place 241 = .ok (.iinc 3 (-1), 3) := by decide +kernel
theorem dX5_place_244 : decode cX5_place 244 = .ok (.goto (-152), 3) := by decide +kernel
theorem dX5_place_247 : decode cX5_place 247 = .ok (.return_, 1) := by decide +kernel
theorem dX5_pack_0 : decode cX5_pack 0 = .ok (.aload_n 0, 1) := by decide +kernel
theorem dX5_pack_1 : decode cX5_pack 1 = .ok (.iconst 0, 1) := by decide +kernel
theorem dX5_pack_2 : decode cX5_pack 2 = .ok (.putfield 107, 3) := by decide +kernel
theorem dX5_pack_5 : decode cX5_pack 5 = .ok (.iconst 2, 1) := by decide +kernel
theorem dX5_pack_6 : decode cX5_pack 6 = .ok (.istore_n 3, 1) := by decide +kernel
theorem dX5_pack_7 : decode cX5_pack 7 = .ok (.iload_n 3, 1) := by decide +kernel
theorem dX5_pack_8 : decode cX5_pack 8 = .ok (.ifCond .lt 56, 3) := by decide +kernel
theorem dX5_pack_11 : decode cX5_pack 11 = .ok (.aload_n 0, 1) := by decide +kernel
theorem dX5_pack_12 : decode cX5_pack 12 = .ok (.getfield 69, 3) := by decide +kernel
theorem dX5_pack_15 : decode cX5_pack 15 = .ok (.iconst 1, 1) := by decide +kernel
theorem dX5_pack_16 : decode cX5_pack 16 = .ok (.isub, 1) := by decide +kernel
theorem dX5_pack_17 : decode cX5_pack 17 = .ok (.istore 4, 2) := by decide +kernel
theorem dX5_pack_19 : decode cX5_pack 19 = .ok (.iload 4, 2) := by decide +kernel
theorem dX5_pack_21 : decode cX5_pack 21 = .ok (.ifCond .lt 37, 3) := by decide +kernel
theorem dX5_pack_24 : decode cX5_pack 24 = .ok (.lload_n 1, 1) := by decide +kernel
theorem dX5_pack_25 : decode cX5_pack 25 = .ok (.iload 4, 2) := by decide +kernel
theorem dX5_pack_27 : decode cX5_pack 27 = .ok (.lshr, 1) := by decide +kernel
theorem dX5_pack_28 : decode cX5_pack 28 = .ok (.lconst 1, 1) := by decide +kernel
theorem dX5_pack_29 : decode cX5_pack 29 = .ok (.land, 1) := by decide +kernel
theorem dX5_pack_30 : decode cX5_pack 30 = .ok (.lconst 1, 1) := by decide +kernel
theorem dX5_pack_31 : decode cX5_pack 31 = .ok (.lcmp, 1) := by decide +kernel
theorem dX5_pack_32 : decode cX5_pack 32 = .ok (.ifCond .ne 20, 3) := by decide +kernel
theorem dX5_pack_35 : decode cX5_pack 35 = .ok (.aload_n 0, 1) := by decide +kernel
theorem dX5_pack_36 : decode cX5_pack 36 = .ok (.getfield 7, 3) := by decide +kernel
theorem dX5_pack_39 : decode cX5_pack 39 = .ok (.iload 4, 2) := by decide +kernel
theorem dX5_pack_41 : decode cX5_pack 41 = .ok (.iaload, 1) := by decide +kernel
theorem dX5_pack_42 : decode cX5_pack 42 = .ok (.iload_n 3, 1) := by decide +kernel
theorem dX5_pack_43 : decode cX5_pack 43 = .ok (.if_icmp .ne 9, 3) := by decide +kernel
theorem dX5_pack_46 : decode cX5_pack 46 = .ok (.aload_n 0, 1) := by decide +kernel
theorem dX5_pack_47 : decode cX5_pack 47 = .ok (.iload 4, 2) := by decide +kernel
theorem dX5_pack_49 : decode cX5_pack 49 = .ok (.invokevirtual 110, 3) := by decide +kernel
theorem dX5_pack_52 : decode cX5_pack 52 = .ok (.iinc 4 (-1), 3) := by decide +kernel
theorem dX5_pack_55 : decode cX5_pack 55 = .ok (.goto (-36), 3) := by decide +kernel
theorem dX5_pack_58 : decode cX5_pack 58 = .ok (.iinc 3 (-1), 3) := by decide +kernel
theorem dX5_pack_61 : decode cX5_pack 61 = .ok (.goto (-54), 3) := by decide +kernel
theorem dX5_pack_64 : decode cX5_pack 64 = .ok (.return_, 1) := by decide +kernel
theorem dX5_allReach_0 : decode cX5_allReach 0 = .ok (.iconst 0, 1) := by decide +kernel
theorem dX5_allReach_1 : decode cX5_allReach 1 = .ok (.istore 5, 2) := by decide +kernel
theorem dX5_allReach_3 : decode cX5_allReach 3 = .ok (.iload 5, 2) := by decide +kernel
theorem dX5_allReach_5 : decode cX5_allReach 5 = .ok (.aload_n 0, 1) := by decide +kernel
theorem dX5_allReach_6 : decode cX5_allReach 6 = .ok (.getfield 69, 3) := by decide +kernel
theorem dX5_allReach_9 : decode cX5_allReach 9 = .ok (.if_icmp .ge 37, 3) := by decide +kernel
theorem dX5_allReach_12 : decode cX5_allReach 12 = .ok (.lload_n 1, 1) := by decide +kernel
theorem dX5_allReach_13 : decode cX5_allReach 13 = .ok (.iload 5, 2) := by decide +kernel
theorem dX5_allReach_15 : decode cX5_allReach 15 = .ok (.lshr, 1) := by decide +kernel
theorem dX5_allReach_16 : decode cX5_allReach 16 = .ok (.lconst 1, 1) := by decide +kernel
theorem dX5_allReach_17 : decode cX5_allReach 17 = .ok (.land, 1) := by decide +kernel
theorem dX5_allReach_18 : decode cX5_allReach 18 = .ok (.lconst 1, 1) := by decide +kernel
theorem dX5_allReach_19 : decode cX5_allReach 19 = .ok (.lcmp, 1) := by decide +kernel
theorem dX5_allReach_20 : decode cX5_allReach 20 = .ok (.ifCond .ne 20, 3) := by decide +kernel
end
section
theorem dX5_allReach_23 : decode cX5_allReach 23 = .ok (.aload_n 0, 1) := by decide +kernel
theorem dX5_allReach_24 : decode cX5_allReach 24 = .ok (.lconst 1, 1) := by decide +kernel
theorem dX5_allReach_25 : decode cX5_allReach 25 = .ok (.iload 5, 2) := by decide +kernel
theorem dX5_allReach_27 : decode cX5_allReach 27 = .ok (.lshl, 1) := by decide +kernel
theorem dX5_allReach_28 : decode cX5_allReach 28 = .ok (.invokevirtual 114, 3) := by decide +kernel
theorem dX5_allReach_31 : decode cX5_allReach 31 = .ok (.lload_n 3, 1) := by decide +kernel
theorem dX5_allReach_32 : decode cX5_allReach 32 = .ok (.land, 1) := by decide +kernel
theorem dX5_allReach_33 : decode cX5_allReach 33 = .ok (.lconst 0, 1) := by decide +kernel
theorem dX5_allReach_34 : decode cX5_allReach 34 = .ok (.lcmp, 1) := by decide +kernel
theorem dX5_allReach_35 : decode cX5_allReach 35 = .ok (.ifCond .ne 5, 3) := by decide +kernel
theorem dX5_allReach_38 : decode cX5_allReach 38 = .ok (.iconst 0, 1) := by decide +kernel
theorem dX5_allReach_39 : decode cX5_allReach 39 = .ok (.ireturn, 1) := by decide +kernel
theorem dX5_allReach_40 : decode cX5_allReach 40 = .ok (.iinc 5 1, 3) := by decide +kernel
theorem dX5_allReach_43 : decode cX5_allReach 43 = .ok (.goto (-40), 3) := by decide +kernel
theorem dX5_allReach_46 : decode cX5_allReach 46 = .ok (.iconst 1, 1) := by decide +kernel
theorem dX5_allReach_47 : decode cX5_allReach 47 = .ok (.ireturn, 1) := by decide +kernel
theorem dX5_converse_0 : decode cX5_converse 0 = .ok (.lconst 0, 1) := by decide +kernel
theorem dX5_converse_1 : decode cX5_converse 1 = .ok (.lstore 4, 2) := by decide +kernel
theorem dX5_converse_3 : decode cX5_converse 3 = .ok (.lconst 0, 1) := by decide +kernel
theorem dX5_converse_4 : decode cX5_converse 4 = .ok (.lstore 6, 2) := by decide +kernel
theorem dX5_converse_6 : decode cX5_converse 6 = .ok (.aload_n 0, 1) := by decide +kernel
theorem dX5_converse_7 : decode cX5_converse 7 = .ok (.aload_n 0, 1) := by decide +kernel
theorem dX5_converse_8 : decode cX5_converse 8 = .ok (.iload_n 1, 1) := by decide +kernel
theorem dX5_converse_9 : decode cX5_converse 9 = .ok (.iconst 0, 1) := by decide +kernel
theorem dX5_converse_10 : decode cX5_converse 10 = .ok (.bipush 7, 2) := by decide +kernel
theorem dX5_converse_12 : decode cX5_converse 12 = .ok (.invokevirtual 118, 3) := by decide +kernel
theorem dX5_converse_15 : decode cX5_converse 15 = .ok (.invokevirtual 114, 3) := by decide +kernel
theorem dX5_converse_18 : decode cX5_converse 18 = .ok (.lstore 8, 2) := by decide +kernel
theorem dX5_converse_20 : decode cX5_converse 20 = .ok (.iconst 0, 1) := by decide +kernel
theorem dX5_converse_21 : decode cX5_converse 21 = .ok (.istore 10, 2) := by decide +kernel
theorem dX5_converse_23 : decode cX5_converse 23 = .ok (.iload 10, 2) := by decide +kernel
theorem dX5_converse_25 : decode cX5_converse 25 = .ok (.aload_n 0, 1) := by decide +kernel
theorem dX5_converse_26 : decode cX5_converse 26 = .ok (.getfield 69, 3) := by decide +kernel
theorem dX5_converse_29 : decode cX5_converse 29 = .ok (.if_icmp .ge 37, 3) := by decide +kernel
theorem dX5_converse_32 : decode cX5_converse 32 = .ok (.aload_n 0, 1) := by decide +kernel
theorem dX5_converse_33 : decode cX5_converse 33 = .ok (.getfield 7, 3) := by decide +kernel
theorem dX5_converse_36 : decode cX5_converse 36 = .ok (.iload 10, 2) := by decide +kernel
theorem dX5_converse_38 : decode cX5_converse 38 = .ok (.iaload, 1) := by decide +kernel
theorem dX5_converse_39 : decode cX5_converse 39 = .ok (.iconst 2, 1) := by decide +kernel
theorem dX5_converse_40 : decode cX5_converse 40 = .ok (.if_icmp .ne 16, 3) := by decide +kernel
theorem dX5_converse_43 : decode cX5_converse 43 = .ok (.lload 6, 2) := by decide +kernel
theorem dX5_converse_45 : decode cX5_converse 45 = .ok (.lload 8, 2) := by decide +kernel
theorem dX5_converse_47 : decode cX5_converse 47 = .ok (.lconst 1, 1) := by decide +kernel
theorem dX5_converse_48 : decode cX5_converse 48 = .ok (.iload 10, 2) := by decide +kernel
theorem dX5_converse_50 : decode cX5_converse 50 = .ok (.lshl, 1) := by decide +kernel
theorem dX5_converse_51 : decode cX5_converse 51 = .ok (.land, 1) := by decide +kernel
theorem dX5_converse_52 : decode cX5_converse 52 = .ok (.lor, 1) := by decide +kernel
theorem dX5_converse_53 : decode cX5_converse 53 = .ok (.goto 5, 3) := by decide +kernel
theorem dX5_converse_56 : decode cX5_converse 56 = .ok (.lload 6, 2) := by decide +kernel
theorem dX5_converse_58 : decode cX5_converse 58 = .ok (.lstore 6, 2) := by decide +kernel
theorem dX5_converse_60 : decode cX5_converse 60 = .ok (.iinc 10 1, 3) := by decide +kernel
theorem dX5_converse_63 : decode cX5_converse 63 = .ok (.goto (-40), 3) := by decide +kernel
theorem dX5_converse_66 : decode cX5_converse 66 = .ok (.iconst 0, 1) := by decide +kernel
theorem dX5_converse_67 : decode cX5_converse 67 = .ok (.istore 10, 2) := by decide +kernel
theorem dX5_converse_69 : decode cX5_converse 69 = .ok (.iload 10, 2) := by decide +kernel
theorem dX5_converse_71 : decode cX5_converse 71 = .ok (.bipush 60, 2) := by decide +kernel
theorem dX5_converse_73 : decode cX5_converse 73 = .ok (.if_icmp .ge 169, 3) := by decide +kernel
theorem dX5_converse_76 : decode cX5_converse 76 = .ok (.lload 6, 2) := by decide +kernel
theorem dX5_converse_78 : decode cX5_converse 78 = .ok (.lconst 0, 1) := by decide +kernel
theorem dX5_converse_79 : decode cX5_converse 79 = .ok (.lcmp, 1) := by decide +kernel
theorem dX5_converse_80 : decode cX5_converse 80 = .ok (.ifCond .eq 162, 3) := by decide +kernel
theorem dX5_converse_83 : decode cX5_converse 83 = .ok (.iconst 0, 1) := by decide +kernel
theorem dX5_converse_84 : decode cX5_converse 84 = .ok (.istore 11, 2) := by decide +kernel
theorem dX5_converse_86 : decode cX5_converse 86 = .ok (.lconst 0, 1) := by decide +kernel
theorem dX5_converse_87 : decode cX5_converse 87 = .ok (.lstore 12, 2) := by decide +kernel
theorem dX5_converse_89 : decode cX5_converse 89 = .ok (.aload_n 0, 1) := by decide +kernel
theorem dX5_converse_90 : decode cX5_converse 90 = .ok (.getfield 69, 3) := by decide +kernel
theorem dX5_converse_93 : decode cX5_converse 93 = .ok (.iconst 1, 1) := by decide +kernel
theorem dX5_converse_94 : decode cX5_converse 94 = .ok (.isub, 1) := by decide +kernel
theorem dX5_converse_95 : decode cX5_converse 95 = .ok (.istore 14, 2) := by decide +kernel
theorem dX5_converse_97 : decode cX5_converse 97 = .ok (.iload 14, 2) := by decide +kernel
theorem dX5_converse_99 : decode cX5_converse 99 = .ok (.ifCond .lt 67, 3) := by decide +kernel
theorem dX5_converse_102 : decode cX5_converse 102 = .ok (.iload 11, 2) := by decide +kernel
theorem dX5_converse_104 : decode cX5_converse 104 = .ok (.iconst 3, 1) := by decide +kernel
theorem dX5_converse_105 : decode cX5_converse 105 = .ok (.if_icmp .ge 55, 3) := by decide +kernel
theorem dX5_converse_108 : decode cX5_converse 108 = .ok (.lload 6, 2) := by decide +kernel
theorem dX5_converse_110 : decode cX5_converse 110 = .ok (.iload 14, 2) := by decide +kernel
theorem dX5_converse_112 : decode cX5_converse 112 = .ok (.lshr, 1) := by decide +kernel
theorem dX5_converse_113 : decode cX5_converse 113 = .ok (.lconst 1, 1) := by decide +kernel
theorem dX5_converse_114 : decode cX5_converse 114 = .ok (.land, 1) := by decide +kernel
theorem dX5_converse_115 : decode cX5_converse 115 = .ok (.lconst 1, 1) := by decide +kernel
theorem dX5_converse_116 : decode cX5_converse 116 = .ok (.lcmp, 1) := by decide +kernel
theorem dX5_converse_117 : decode cX5_converse 117 = .ok (.ifCond .ne 43, 3) := by decide +kernel
theorem dX5_converse_120 : decode cX5_converse 120 = .ok (.iinc 11 1, 3) := by decide +kernel
theorem dX5_converse_123 : decode cX5_converse 123 = .ok (.lload 6, 2) := by decide +kernel
theorem dX5_converse_125 : decode cX5_converse 125 = .ok (.lconst 1, 1) := by decide +kernel
theorem dX5_converse_126 : decode cX5_converse 126 = .ok (.iload 14, 2) := by decide +kernel
theorem dX5_converse_128 : decode cX5_converse 128 = .ok (.lshl, 1) := by decide +kernel
theorem dX5_converse_129 : decode cX5_converse 129 = .ok (.ldc2_w 122, 3) := by decide +kernel
theorem dX5_converse_132 : decode cX5_converse 132 = .ok (.lxor, 1) := by decide +kernel
theorem dX5_converse_133 : decode cX5_converse 133 = .ok (.land, 1) := by decide +kernel
theorem dX5_converse_134 : decode cX5_converse 134 = .ok (.lstore 6, 2) := by decide +kernel
theorem dX5_converse_136 : decode cX5_converse 136 = .ok (.aload_n 0, 1) := by decide +kernel
theorem dX5_converse_137 : decode cX5_converse 137 = .ok (.iconst 0, 1) := by decide +kernel
theorem dX5_converse_138 : decode cX5_converse 138 = .ok (.iload 14, 2) := by decide +kernel
theorem dX5_converse_140 : decode cX5_converse 140 = .ok (.invokevirtual 73, 3) := by decide +kernel
theorem dX5_converse_143 : decode cX5_converse 143 = .ok (.ifCond .eq 13, 3) := by decide +kernel
theorem dX5_converse_146 : decode cX5_converse 146 = .ok (.lload 12, 2) := by decide +kernel
theorem dX5_converse_148 : decode cX5_converse 148 = .ok (.lconst 1, 1) := by decide +kernel
theorem dX5_converse_149 : decode cX5_converse 149 = .ok (.iload 14, 2) := by decide +kernel
theorem dX5_converse_151 : decode cX5_converse 151 = .ok (.lshl, 1) := by decide +kernel
theorem dX5_converse_152 : decode cX5_converse 152 = .ok (.lor, 1) := by decide +kernel
theorem dX5_converse_153 : decode cX5_converse 153 = .ok (.goto 5, 3) := by decide +kernel
theorem dX5_converse_156 : decode cX5_converse 156 = .ok (.lload 12, 2) := by decide +kernel
theorem dX5_converse_158 : decode cX5_converse 158 = .ok (.lstore 12, 2) := by decide +kernel
theorem dX5_converse_160 : decode cX5_converse 160 = .ok (.iinc 14 (-1), 3) := by decide +kernel
theorem dX5_converse_163 : decode cX5_converse 163 = .ok (.goto (-66), 3) := by decide +kernel
theorem dX5_converse_166 : decode cX5_converse 166 = .ok (.aload_n 0, 1) := by decide +kernel
theorem dX5_converse_167 : decode cX5_converse 167 = .ok (.dup, 1) := by decide +kernel
theorem dX5_converse_168 : decode cX5_converse 168 = .ok (.getfield 124, 3) := by decide +kernel
theorem dX5_converse_171 : decode cX5_converse 171 = .ok (.iconst 1, 1) := by decide +kernel
theorem dX5_converse_172 : decode cX5_converse 172 = .ok (.iadd, 1) := by decide +kernel
theorem dX5_converse_173 : decode cX5_converse 173 = .ok (.putfield 124, 3) := by decide +kernel
theorem dX5_converse_176 : decode cX5_converse 176 = .ok (.aload_n 0, 1) := by decide +kernel
theorem dX5_converse_177 : decode cX5_converse 177 = .ok (.aload_n 0, 1) := by decide +kernel
theorem dX5_converse_178 : decode cX5_converse 178 = .ok (.getfield 127, 3) := by decide +kernel
theorem dX5_converse_181 : decode cX5_converse 181 = .ok (.iload 11, 2) := by decide +kernel
theorem dX5_converse_183 : decode cX5_converse 183 = .ok (.iadd, 1) := by decide +kernel
theorem dX5_converse_184 : decode cX5_converse 184 = .ok (.putfield 127, 3) := by decide +kernel
theorem dX5_converse_187 : decode cX5_converse 187 = .ok (.aload_n 0, 1) := by decide +kernel
theorem dX5_converse_188 : decode cX5_converse 188 = .ok (.aload_n 0, 1) := by decide +kernel
theorem dX5_converse_189 : decode cX5_converse 189 = .ok (.getfield 130, 3) := by decide +kernel
theorem dX5_converse_192 : decode cX5_converse 192 = .ok (.lload 12, 2) := by decide +kernel
theorem dX5_converse_194 : decode cX5_converse 194 = .ok (.invokestatic 133, 3) := by decide +kernel
theorem dX5_converse_197 : decode cX5_converse 197 = .ok (.iadd, 1) := by decide +kernel
theorem dX5_converse_198 : decode cX5_converse 198 = .ok (.putfield 130, 3) := by decide +kernel
theorem dX5_converse_201 : decode cX5_converse 201 = .ok (.lload 4, 2) := by decide +kernel
theorem dX5_converse_203 : decode cX5_converse 203 = .ok (.lload 12, 2) := by decide +kernel
theorem dX5_converse_205 : decode cX5_converse 205 = .ok (.lor, 1) := by decide +kernel
theorem dX5_converse_206 : decode cX5_converse 206 = .ok (.lstore 4, 2) := by decide +kernel
theorem dX5_converse_208 : decode cX5_converse 208 = .ok (.aload_n 0, 1) := by decide +kernel
theorem dX5_converse_209 : decode cX5_converse 209 = .ok (.lload_n 2, 1) := by decide +kernel
theorem dX5_converse_210 : decode cX5_converse 210 = .ok (.lload 4, 2) := by decide +kernel
theorem dX5_converse_212 : decode cX5_converse 212 = .ok (.invokevirtual 137, 3) := by decide +kernel
theorem dX5_converse_215 : decode cX5_converse 215 = .ok (.ifCond .eq 6, 3) := by decide +kernel
theorem dX5_converse_218 : decode cX5_converse 218 = .ok (.lload 4, 2) := by decide +kernel
theorem dX5_converse_220 : decode cX5_converse 220 = .ok (.lreturn, 1) := by decide +kernel
theorem dX5_converse_221 : decode cX5_converse 221 = .ok (.lload 6, 2) := by decide +kernel
theorem dX5_converse_223 : decode cX5_converse 223 = .ok (.aload_n 0, 1) := by decide +kernel
theorem dX5_converse_224 : decode cX5_converse 224 = .ok (.lload 4, 2) := by decide +kernel
theorem dX5_converse_226 : decode cX5_converse 226 = .ok (.invokevirtual 114, 3) := by decide +kernel
theorem dX5_converse_229 : decode cX5_converse 229 = .ok (.ldc2_w 122, 3) := by decide +kernel
theorem dX5_converse_232 : decode cX5_converse 232 = .ok (.lxor, 1) := by decide +kernel
theorem dX5_converse_233 : decode cX5_converse 233 = .ok (.land, 1) := by decide +kernel
theorem dX5_converse_234 : decode cX5_converse 234 = .ok (.lstore 6, 2) := by decide +kernel
theorem dX5_converse_236 : decode cX5_converse 236 = .ok (.iinc 10 1, 3) := by decide +kernel
theorem dX5_converse_239 : decode cX5_converse 239 = .ok (.goto (-170), 3) := by decide +kernel
theorem dX5_converse_242 : decode cX5_converse 242 = .ok (.lload 4, 2) := by decide +kernel
theorem dX5_converse_244 : decode cX5_converse 244 = .ok (.lreturn, 1) := by decide +kernel
theorem dX5_fetch_0 : decode cX5_fetch 0 = .ok (.iload_n 1, 1) := by decide +kernel
theorem dX5_fetch_1 : decode cX5_fetch 1 = .ok (.iconst 1, 1) := by decide +kernel
theorem dX5_fetch_2 : decode cX5_fetch 2 = .ok (.if_icmp .lt 19, 3) := by decide +kernel
theorem dX5_fetch_5 : decode cX5_fetch 5 = .ok (.iload_n 1, 1) := by decide +kernel
theorem dX5_fetch_6 : decode cX5_fetch 6 = .ok (.iconst 2, 1) := by decide +kernel
theorem dX5_fetch_7 : decode cX5_fetch 7 = .ok (.if_icmp .gt 14, 3) := by decide +kernel
theorem dX5_fetch_10 : decode cX5_fetch 10 = .ok (.iload_n 2, 1) := by decide +kernel
theorem dX5_fetch_11 : decode cX5_fetch 11 = .ok (.iconst 1, 1) := by decide +kernel
theorem dX5_fetch_12 : decode cX5_fetch 12 = .ok (.if_icmp .lt 9, 3) := by decide +kernel
theorem dX5_fetch_15 : decode cX5_fetch 15 = .ok (.iload_n 2, 1) := by decide +kernel
theorem dX5_fetch_16 : decode cX5_fetch 16 = .ok (.bipush 15, 2) := by decide +kernel
theorem dX5_fetch_18 : decode cX5_fetch 18 = .ok (.if_icmp .le 5, 3) := by decide +kernel
theorem dX5_fetch_21 : decode cX5_fetch 21 = .ok (.iconst (-1), 1) := by decide +kernel
theorem dX5_fetch_22 : decode cX5_fetch 22 = .ok (.ireturn, 1) := by decide +kernel
theorem dX5_fetch_23 : decode cX5_fetch 23 = .ok (.aload_n 0, 1) := by decide +kernel
theorem dX5_fetch_24 : decode cX5_fetch 24 = .ok (.getfield 29, 3) := by decide +kernel
theorem dX5_fetch_27 : decode cX5_fetch 27 = .ok (.iload_n 1, 1) := by decide +kernel
theorem dX5_fetch_28 : decode cX5_fetch 28 = .ok (.baload, 1) := by decide +kernel
theorem dX5_fetch_29 : decode cX5_fetch 29 = .ok (.ifCond .ne 12, 3) := by decide +kernel
theorem dX5_fetch_32 : decode cX5_fetch 32 = .ok (.aload_n 0, 1) := by decide +kernel
theorem dX5_fetch_33 : decode cX5_fetch 33 = .ok (.getfield 29, 3) := by decide +kernel
theorem dX5_fetch_36 : decode cX5_fetch 36 = .ok (.iconst 0, 1) := by decide +kernel
theorem dX5_fetch_37 : decode cX5_fetch 37 = .ok (.baload, 1) := by decide +kernel
theorem dX5_fetch_38 : decode cX5_fetch 38 = .ok (.ifCond .eq 6, 3) := by decide +kernel
theorem dX5_fetch_41 : decode cX5_fetch 41 = .ok (.bipush (-2), 2) := by decide +kernel
theorem dX5_fetch_43 : decode cX5_fetch 43 = .ok (.ireturn, 1) := by decide +kernel
theorem dX5_fetch_44 : decode cX5_fetch 44 = .ok (.lconst 0, 1) := by decide +kernel
theorem dX5_fetch_45 : decode cX5_fetch 45 = .ok (.lstore_n 3, 1) := by decide +kernel
theorem dX5_fetch_46 : decode cX5_fetch 46 = .ok (.aload_n 0, 1) := by decide +kernel
theorem dX5_fetch_47 : decode cX5_fetch 47 = .ok (.iconst 0, 1) := by decide +kernel
theorem dX5_fetch_48 : decode cX5_fetch 48 = .ok (.putfield 81, 3) := by decide +kernel
theorem dX5_fetch_51 : decode cX5_fetch 51 = .ok (.iconst 0, 1) := by decide +kernel
theorem dX5_fetch_52 : decode cX5_fetch 52 = .ok (.istore 5, 2) := by decide +kernel
theorem dX5_fetch_54 : decode cX5_fetch 54 = .ok (.iload 5, 2) := by decide +kernel
theorem dX5_fetch_56 : decode cX5_fetch 56 = .ok (.iconst 4, 1) := by decide +kernel
theorem dX5_fetch_57 : decode cX5_fetch 57 = .ok (.if_icmp .ge 79, 3) := by decide +kernel
theorem dX5_fetch_60 : decode cX5_fetch 60 = .ok (.iload_n 2, 1) := by decide +kernel
theorem dX5_fetch_61 : decode cX5_fetch 61 = .ok (.iload 5, 2) := by decide +kernel
theorem dX5_fetch_63 : decode cX5_fetch 63 = .ok (.ishr, 1) := by decide +kernel
theorem dX5_fetch_64 : decode cX5_fetch 64 = .ok (.iconst 1, 1) := by decide +kernel
theorem dX5_fetch_65 : decode cX5_fetch 65 = .ok (.iand, 1) := by decide +kernel
theorem dX5_fetch_66 : decode cX5_fetch 66 = .ok (.iconst 1, 1) := by decide +kernel
theorem dX5_fetch_67 : decode cX5_fetch 67 = .ok (.if_icmp .ne 63, 3) := by decide +kernel
theorem dX5_fetch_70 : decode cX5_fetch 70 = .ok (.aload_n 0, 1) := by decide +kernel
theorem dX5_fetch_71 : decode cX5_fetch 71 = .ok (.getfield 26, 3) := by decide +kernel
theorem dX5_fetch_74 : decode cX5_fetch 74 = .ok (.iload 5, 2) := by decide +kernel
theorem dX5_fetch_76 : decode cX5_fetch 76 = .ok (.iaload, 1) := by decide +kernel
theorem dX5_fetch_77 : decode cX5_fetch 77 = .ok (.ifCond .le 53, 3) := by decide +kernel
theorem dX5_fetch_80 : decode cX5_fetch 80 = .ok (.aload_n 0, 1) := by decide +kernel
theorem dX5_fetch_81 : decode cX5_fetch 81 = .ok (.iconst 4, 1) := by decide +kernel
theorem dX5_fetch_82 : decode cX5_fetch 82 = .ok (.iload 5, 2) := by decide +kernel
theorem dX5_fetch_84 : decode cX5_fetch 84 = .ok (.iadd, 1) := by decide +kernel
theorem dX5_fetch_85 : decode cX5_fetch 85 = .ok (.aload_n 0, 1) := by decide +kernel
theorem dX5_fetch_86 : decode cX5_fetch 86 = .ok (.getfield 26, 3) := by decide +kernel
theorem dX5_fetch_89 : decode cX5_fetch 89 = .ok (.iload 5, 2) := by decide +kernel
theorem dX5_fetch_91 : decode cX5_fetch 91 = .ok (.iaload, 1) := by decide +kernel
theorem dX5_fetch_92 : decode cX5_fetch 92 = .ok (.invokevirtual 100, 3) := by decide +kernel
theorem dX5_fetch_95 : decode cX5_fetch 95 = .ok (.aload_n 0, 1) := by decide +kernel
theorem dX5_fetch_96 : decode cX5_fetch 96 = .ok (.iload_n 1, 1) := by decide +kernel
theorem dX5_fetch_97 : decode cX5_fetch 97 = .ok (.aload_n 0, 1) := by decide +kernel
theorem dX5_fetch_98 : decode cX5_fetch 98 = .ok (.getfield 26, 3) := by decide +kernel
theorem dX5_fetch_101 : decode cX5_fetch 101 = .ok (.iload 5, 2) := by decide +kernel
theorem dX5_fetch_103 : decode cX5_fetch 103 = .ok (.iaload, 1) := by decide +kernel
theorem dX5_fetch_104 : decode cX5_fetch 104 = .ok (.iconst 1, 1) := by decide +kernel
theorem dX5_fetch_105 : decode cX5_fetch 105 = .ok (.isub, 1) := by decide +kernel
theorem dX5_fetch_106 : decode cX5_fetch 106 = .ok (.invokevirtual 73, 3) := by decide +kernel
theorem dX5_fetch_109 : decode cX5_fetch 109 = .ok (.ifCond .eq 7, 3) := by decide +kernel
theorem dX5_fetch_112 : decode cX5_fetch 112 = .ok (.lload_n 3, 1) := by decide +kernel
theorem dX5_fetch_113 : decode cX5_fetch 113 = .ok (.goto 16, 3) := by decide +kernel
theorem dX5_fetch_116 : decode cX5_fetch 116 = .ok (.lload_n 3, 1) := by decide +kernel
theorem dX5_fetch_117 : decode cX5_fetch 117 = .ok (.lconst 1, 1) := by decide +kernel
theorem dX5_fetch_118 : decode cX5_fetch 118 = .ok (.aload_n 0, 1) := by decide +kernel
theorem dX5_fetch_119 : decode cX5_fetch 119 = .ok (.getfield 26, 3) := by decide +kernel
theorem dX5_fetch_122 : decode cX5_fetch 122 = .ok (.iload 5, 2) := by decide +kernel
theorem dX5_fetch_124 : decode cX5_fetch 124 = .ok (.iaload, 1) := by decide +kernel
theorem dX5_fetch_125 : decode cX5_fetch 125 = .ok (.iconst 1, 1) := by decide +kernel
theorem dX5_fetch_126 : decode cX5_fetch 126 = .ok (.isub, 1) := by decide +kernel
theorem dX5_fetch_127 : decode cX5_fetch 127 = .ok (.lshl, 1) := by decide +kernel
theorem dX5_fetch_128 : decode cX5_fetch 128 = .ok (.lor, 1) := by decide +kernel
theorem dX5_fetch_129 : decode cX5_fetch 129 = .ok (.lstore_n 3, 1) := by decide +kernel
theorem dX5_fetch_130 : decode cX5_fetch 130 = .ok (.iinc 5 1, 3) := by decide +kernel
theorem dX5_fetch_133 : decode cX5_fetch 133 = .ok (.goto (-79), 3) := by decide +kernel
theorem dX5_fetch_136 : decode cX5_fetch 136 = .ok (.aload_n 0, 1) := by decide +kernel
theorem dX5_fetch_137 : decode cX5_fetch 137 = .ok (.iconst 0, 1) := by decide +kernel
theorem dX5_fetch_138 : decode cX5_fetch 138 = .ok (.putfield 127, 3) := by decide +kernel
theorem dX5_fetch_141 : decode cX5_fetch 141 = .ok (.aload_n 0, 1) := by decide +kernel
theorem dX5_fetch_142 : decode cX5_fetch 142 = .ok (.iconst 0, 1) := by decide +kernel
theorem dX5_fetch_143 : decode cX5_fetch 143 = .ok (.putfield 130, 3) := by decide +kernel
theorem dX5_fetch_146 : decode cX5_fetch 146 = .ok (.aload_n 0, 1) := by decide +kernel
theorem dX5_fetch_147 : decode cX5_fetch 147 = .ok (.iconst 0, 1) := by decide +kernel
theorem dX5_fetch_148 : decode cX5_fetch 148 = .ok (.putfield 124, 3) := by decide +kernel
theorem dX5_fetch_151 : decode cX5_fetch 151 = .ok (.lload_n 3, 1) := by decide +kernel
theorem dX5_fetch_152 : decode cX5_fetch 152 = .ok (.lconst 0, 1) := by decide +kernel
theorem dX5_fetch_153 : decode cX5_fetch 153 = .ok (.lcmp, 1) := by decide +kernel
theorem dX5_fetch_154 : decode cX5_fetch 154 = .ok (.ifCond .ne 7, 3) := by decide +kernel
theorem dX5_fetch_157 : decode cX5_fetch 157 = .ok (.lconst 0, 1) := by decide +kernel
theorem dX5_fetch_158 : decode cX5_fetch 158 = .ok (.goto 9, 3) := by decide +kernel
theorem dX5_fetch_161 : decode cX5_fetch 161 = .ok (.aload_n 0, 1) := by decide +kernel
theorem dX5_fetch_162 : decode cX5_fetch 162 = .ok (.iload_n 1, 1) := by decide +kernel
theorem dX5_fetch_163 : decode cX5_fetch 163 = .ok (.lload_n 3, 1) := by decide +kernel
theorem dX5_fetch_164 : decode cX5_fetch 164 = .ok (.invokevirtual 141, 3) := by decide +kernel
theorem dX5_fetch_167 : decode cX5_fetch 167 = .ok (.lstore 5, 2) := by decide +kernel
theorem dX5_fetch_169 : decode cX5_fetch 169 = .ok (.aload_n 0, 1) := by decide +kernel
theorem dX5_fetch_170 : decode cX5_fetch 170 = .ok (.lload_n 3, 1) := by decide +kernel
theorem dX5_fetch_171 : decode cX5_fetch 171 = .ok (.invokevirtual 114, 3) := by decide +kernel
theorem dX5_fetch_174 : decode cX5_fetch 174 = .ok (.aload_n 0, 1) := by decide +kernel
theorem dX5_fetch_175 : decode cX5_fetch 175 = .ok (.lload 5, 2) := by decide +kernel
theorem dX5_fetch_177 : decode cX5_fetch 177 = .ok (.invokevirtual 114, 3) := by decide +kernel
theorem dX5_fetch_180 : decode cX5_fetch 180 = .ok (.ldc2_w 122, 3) := by decide +kernel
theorem dX5_fetch_183 : decode cX5_fetch 183 = .ok (.lxor, 1) := by decide +kernel
theorem dX5_fetch_184 : decode cX5_fetch 184 = .ok (.land, 1) := by decide +kernel
theorem dX5_fetch_185 : decode cX5_fetch 185 = .ok (.lstore 7, 2) := by decide +kernel
theorem dX5_fetch_187 : decode cX5_fetch 187 = .ok (.aload_n 0, 1) := by decide +kernel
theorem dX5_fetch_188 : decode cX5_fetch 188 = .ok (.lload 7, 2) := by decide +kernel
theorem dX5_fetch_190 : decode cX5_fetch 190 = .ok (.invokevirtual 145, 3) := by decide +kernel
theorem dX5_fetch_193 : decode cX5_fetch 193 = .ok (.aload_n 0, 1) := by decide +kernel
theorem dX5_fetch_194 : decode cX5_fetch 194 = .ok (.iload_n 1, 1) := by decide +kernel
theorem dX5_fetch_195 : decode cX5_fetch 195 = .ok (.lload 7, 2) := by decide +kernel
theorem dX5_fetch_197 : decode cX5_fetch 197 = .ok (.invokevirtual 149, 3) := by decide +kernel
theorem dX5_fetch_200 : decode cX5_fetch 200 = .ok (.ifCond .eq 18, 3) := by decide +kernel
theorem dX5_fetch_203 : decode cX5_fetch 203 = .ok (.aload_n 0, 1) := by decide +kernel
theorem dX5_fetch_204 : decode cX5_fetch 204 = .ok (.iload_n 1, 1) := by decide +kernel
theorem dX5_fetch_205 : decode cX5_fetch 205 = .ok (.invokevirtual 104, 3) := by decide +kernel
theorem dX5_fetch_208 : decode cX5_fetch 208 = .ok (.ifCond .eq 10, 3) := by decide +kernel
theorem dX5_fetch_211 : decode cX5_fetch 211 = .ok (.aload_n 0, 1) := by decide +kernel
theorem dX5_fetch_212 : decode cX5_fetch 212 = .ok (.getfield 107, 3) := by decide +kernel
theorem dX5_fetch_215 : decode cX5_fetch 215 = .ok (.goto 5, 3) := by decide +kernel
theorem dX5_fetch_218 : decode cX5_fetch 218 = .ok (.bipush (-2), 2) := by decide +kernel
theorem dX5_fetch_220 : decode cX5_fetch 220 = .ok (.ireturn, 1) := by decide +kernel
theorem dX5_judge_0 : decode cX5_judge 0 = .ok (.aload_n 0, 1) := by decide +kernel
theorem dX5_judge_1 : decode cX5_judge 1 = .ok (.getfield 26, 3) := by decide +kernel
theorem dX5_judge_4 : decode cX5_judge 4 = .ok (.iload_n 1, 1) := by decide +kernel
theorem dX5_judge_5 : decode cX5_judge 5 = .ok (.iaload, 1) := by decide +kernel
theorem dX5_judge_6 : decode cX5_judge 6 = .ok (.iload_n 2, 1) := by decide +kernel
theorem dX5_judge_7 : decode cX5_judge 7 = .ok (.if_icmp .eq 5, 3) := by decide +kernel
theorem dX5_judge_10 : decode cX5_judge 10 = .ok (.iconst 2, 1) := by decide +kernel
theorem dX5_judge_11 : decode cX5_judge 11 = .ok (.ireturn, 1) := by decide +kernel
theorem dX5_judge_12 : decode cX5_judge 12 = .ok (.iload_n 2, 1) := by decide +kernel
theorem dX5_judge_13 : decode cX5_judge 13 = .ok (.ifCond .le 27, 3) := by decide +kernel
theorem dX5_judge_16 : decode cX5_judge 16 = .ok (.aload_n 0, 1) := by decide +kernel
theorem dX5_judge_17 : decode cX5_judge 17 = .ok (.lconst 1, 1) := by decide +kernel
theorem dX5_judge_18 : decode cX5_judge 18 = .ok (.iload_n 3, 1) := by decide +kernel
theorem dX5_judge_19 : decode cX5_judge 19 = .ok (.iconst 1, 1) := by decide +kernel
theorem dX5_judge_20 : decode cX5_judge 20 = .ok (.isub, 1) := by decide +kernel
theorem dX5_judge_21 : decode cX5_judge 21 = .ok (.lshl, 1) := by decide +kernel
theorem dX5_judge_22 : decode cX5_judge 22 = .ok (.invokevirtual 114, 3) := by decide +kernel
theorem dX5_judge_25 : decode cX5_judge 25 = .ok (.iload_n 2, 1) := by decide +kernel
theorem dX5_judge_26 : decode cX5_judge 26 = .ok (.iconst 1, 1) := by decide +kernel
theorem dX5_judge_27 : decode cX5_judge 27 = .ok (.isub, 1) := by decide +kernel
theorem dX5_judge_28 : decode cX5_judge 28 = .ok (.lshr, 1) := by decide +kernel
theorem dX5_judge_29 : decode cX5_judge 29 = .ok (.lconst 1, 1) := by decide +kernel
theorem dX5_judge_30 : decode cX5_judge 30 = .ok (.land, 1) := by decide +kernel
theorem dX5_judge_31 : decode cX5_judge 31 = .ok (.lconst 0, 1) := by decide +kernel
theorem dX5_judge_32 : decode cX5_judge 32 = .ok (.lcmp, 1) := by decide +kernel
theorem dX5_judge_33 : decode cX5_judge 33 = .ok (.ifCond .ne 7, 3) := by decide +kernel
theorem dX5_judge_36 : decode cX5_judge 36 = .ok (.iconst 3, 1) := by decide +kernel
theorem dX5_judge_37 : decode cX5_judge 37 = .ok (.goto 4, 3) := by decide +kernel
theorem dX5_judge_40 : decode cX5_judge 40 = .ok (.iconst 1, 1) := by decide +kernel
theorem dX5_judge_41 : decode cX5_judge 41 = .ok (.ireturn, 1) := by decide +kernel
theorem dX5_carry_0 : decode cX5_carry 0 = .ok (.lconst 0, 1) := by decide +kernel
theorem dX5_carry_1 : decode cX5_carry 1 = .ok (.lstore_n 3, 1) := by decide +kernel
theorem dX5_carry_2 : decode cX5_carry 2 = .ok (.iconst 0, 1) := by decide +kernel
theorem dX5_carry_3 : decode cX5_carry 3 = .ok (.istore 5, 2) := by decide +kernel
theorem dX5_carry_5 : decode cX5_carry 5 = .ok (.iload 5, 2) := by decide +kernel
theorem dX5_carry_7 : decode cX5_carry 7 = .ok (.iconst 4, 1) := by decide +kernel
theorem dX5_carry_8 : decode cX5_carry 8 = .ok (.if_icmp .ge 42, 3) := by decide +kernel
theorem dX5_carry_11 : decode cX5_carry 11 = .ok (.iload_n 2, 1) := by decide +kernel
theorem dX5_carry_12 : decode cX5_carry 12 = .ok (.iload 5, 2) := by decide +kernel
theorem dX5_carry_14 : decode cX5_carry 14 = .ok (.ishr, 1) := by decide +kernel
theorem dX5_carry_15 : decode cX5_carry 15 = .ok (.iconst 1, 1) := by decide +kernel
theorem dX5_carry_16 : decode cX5_carry 16 = .ok (.iand, 1) := by decide +kernel
theorem dX5_carry_17 : decode cX5_carry 17 = .ok (.iconst 1, 1) := by decide +kernel
theorem dX5_carry_18 : decode cX5_carry 18 = .ok (.if_icmp .ne 24, 3) := by decide +kernel
theorem dX5_carry_21 : decode cX5_carry 21 = .ok (.lload_n 3, 1) := by decide +kernel
theorem dX5_carry_22 : decode cX5_carry 22 = .ok (.lconst 1, 1) := by decide +kernel
theorem dX5_carry_23 : decode cX5_carry 23 = .ok (.aload_n 0, 1) := by decide +kernel
theorem dX5_carry_24 : decode cX5_carry 24 = .ok (.getfield 26, 3) := by decide +kernel
theorem dX5_carry_27 : decode cX5_carry 27 = .ok (.bipush 8, 2) := by decide +kernel
theorem dX5_carry_29 : decode cX5_carry 29 = .ok (.iload_n 1, 1) := by decide +kernel
theorem dX5_carry_30 : decode cX5_carry 30 = .ok (.imul, 1) := by decide +kernel
theorem dX5_carry_31 : decode cX5_carry 31 = .ok (.iload 5, 2) := by decide +kernel
theorem dX5_carry_33 : decode cX5_carry 33 = .ok (.iadd, 1) := by decide +kernel
theorem dX5_carry_34 : decode cX5_carry 34 = .ok (.iaload, 1) := by decide +kernel
theorem dX5_carry_35 : decode cX5_carry 35 = .ok (.iconst 1, 1) := by decide +kernel
theorem dX5_carry_36 : decode cX5_carry 36 = .ok (.isub, 1) := by decide +kernel
theorem dX5_carry_37 : decode cX5_carry 37 = .ok (.lshl, 1) := by decide +kernel
theorem dX5_carry_38 : decode cX5_carry 38 = .ok (.lor, 1) := by decide +kernel
theorem dX5_carry_39 : decode cX5_carry 39 = .ok (.goto 4, 3) := by decide +kernel
theorem dX5_carry_42 : decode cX5_carry 42 = .ok (.lload_n 3, 1) := by decide +kernel
theorem dX5_carry_43 : decode cX5_carry 43 = .ok (.lstore_n 3, 1) := by decide +kernel
theorem dX5_carry_44 : decode cX5_carry 44 = .ok (.iinc 5 1, 3) := by decide +kernel
theorem dX5_carry_47 : decode cX5_carry 47 = .ok (.goto (-42), 3) := by decide +kernel
theorem dX5_carry_50 : decode cX5_carry 50 = .ok (.aload_n 0, 1) := by decide +kernel
theorem dX5_carry_51 : decode cX5_carry 51 = .ok (.iconst 0, 1) := by decide +kernel
theorem dX5_carry_52 : decode cX5_carry 52 = .ok (.iconst 0, 1) := by decide +kernel
theorem dX5_carry_53 : decode cX5_carry 53 = .ok (.iconst 3, 1) := by decide +kernel
theorem dX5_carry_54 : decode cX5_carry 54 = .ok (.invokevirtual 118, 3) := by decide +kernel
theorem dX5_carry_57 : decode cX5_carry 57 = .ok (.aload_n 0, 1) := by decide +kernel
theorem dX5_carry_58 : decode cX5_carry 58 = .ok (.getfield 22, 3) := by decide +kernel
theorem dX5_carry_61 : decode cX5_carry 61 = .ok (.iload_n 1, 1) := by decide +kernel
theorem dX5_carry_62 : decode cX5_carry 62 = .ok (.laload, 1) := by decide +kernel
theorem dX5_carry_63 : decode cX5_carry 63 = .ok (.land, 1) := by decide +kernel
theorem dX5_carry_64 : decode cX5_carry 64 = .ok (.lstore 5, 2) := by decide +kernel
theorem dX5_carry_66 : decode cX5_carry 66 = .ok (.aload_n 0, 1) := by decide +kernel
theorem dX5_carry_67 : decode cX5_carry 67 = .ok (.lload_n 3, 1) := by decide +kernel
theorem dX5_carry_68 : decode cX5_carry 68 = .ok (.invokevirtual 114, 3) := by decide +kernel
theorem dX5_carry_71 : decode cX5_carry 71 = .ok (.aload_n 0, 1) := by decide +kernel
theorem dX5_carry_72 : decode cX5_carry 72 = .ok (.lload 5, 2) := by decide +kernel
theorem dX5_carry_74 : decode cX5_carry 74 = .ok (.invokevirtual 114, 3) := by decide +kernel
theorem dX5_carry_77 : decode cX5_carry 77 = .ok (.ldc2_w 122, 3) := by decide +kernel
theorem dX5_carry_80 : decode cX5_carry 80 = .ok (.lxor, 1) := by decide +kernel
theorem dX5_carry_81 : decode cX5_carry 81 = .ok (.land, 1) := by decide +kernel
theorem dX5_carry_82 : decode cX5_carry 82 = .ok (.lstore 7, 2) := by decide +kernel
theorem dX5_carry_84 : decode cX5_carry 84 = .ok (.aload_n 0, 1) := by decide +kernel
theorem dX5_carry_85 : decode cX5_carry 85 = .ok (.lload 7, 2) := by decide +kernel
theorem dX5_carry_87 : decode cX5_carry 87 = .ok (.invokevirtual 145, 3) := by decide +kernel
theorem dX5_carry_90 : decode cX5_carry 90 = .ok (.iconst 0, 1) := by decide +kernel
theorem dX5_carry_91 : decode cX5_carry 91 = .ok (.istore 9, 2) := by decide +kernel
theorem dX5_carry_93 : decode cX5_carry 93 = .ok (.iload 9, 2) := by decide +kernel
theorem dX5_carry_95 : decode cX5_carry 95 = .ok (.iconst 2, 1) := by decide +kernel
theorem dX5_carry_96 : decode cX5_carry 96 = .ok (.if_icmp .ge 107, 3) := by decide +kernel
theorem dX5_carry_99 : decode cX5_carry 99 = .ok (.iload 9, 2) := by decide +kernel
theorem dX5_carry_101 : decode cX5_carry 101 = .ok (.ifCond .ne 7, 3) := by decide +kernel
theorem dX5_carry_104 : decode cX5_carry 104 = .ok (.iconst 0, 1) := by decide +kernel
theorem dX5_carry_105 : decode cX5_carry 105 = .ok (.goto 4, 3) := by decide +kernel
theorem dX5_carry_108 : decode cX5_carry 108 = .ok (.iload_n 1, 1) := by decide +kernel
theorem dX5_carry_109 : decode cX5_carry 109 = .ok (.istore 10, 2) := by decide +kernel
theorem dX5_carry_111 : decode cX5_carry 111 = .ok (.aload_n 0, 1) := by decide +kernel
theorem dX5_carry_112 : decode cX5_carry 112 = .ok (.iconst 0, 1) := by decide +kernel
theorem dX5_carry_113 : decode cX5_carry 113 = .ok (.putfield 81, 3) := by decide +kernel
theorem dX5_carry_116 : decode cX5_carry 116 = .ok (.iconst 0, 1) := by decide +kernel
theorem dX5_carry_117 : decode cX5_carry 117 = .ok (.istore 11, 2) := by decide +kernel
theorem dX5_carry_119 : decode cX5_carry 119 = .ok (.iload 11, 2) := by decide +kernel
theorem dX5_carry_121 : decode cX5_carry 121 = .ok (.iconst 4, 1) := by decide +kernel
theorem dX5_carry_122 : decode cX5_carry 122 = .ok (.if_icmp .ge 49, 3) := by decide +kernel
theorem dX5_carry_125 : decode cX5_carry 125 = .ok (.iload_n 2, 1) := by decide +kernel
theorem dX5_carry_126 : decode cX5_carry 126 = .ok (.iload 11, 2) := by decide +kernel
theorem dX5_carry_128 : decode cX5_carry 128 = .ok (.ishr, 1) := by decide +kernel
theorem dX5_carry_129 : decode cX5_carry 129 = .ok (.iconst 1, 1) := by decide +kernel
theorem dX5_carry_130 : decode cX5_carry 130 = .ok (.iand, 1) := by decide +kernel
theorem dX5_carry_131 : decode cX5_carry 131 = .ok (.iconst 1, 1) := by decide +kernel
theorem dX5_carry_132 : decode cX5_carry 132 = .ok (.if_icmp .ne 33, 3) := by decide +kernel
theorem dX5_carry_135 : decode cX5_carry 135 = .ok (.aload_n 0, 1) := by decide +kernel
theorem dX5_carry_136 : decode cX5_carry 136 = .ok (.iload 9, 2) := by decide +kernel
theorem dX5_carry_138 : decode cX5_carry 138 = .ok (.ifCond .ne 8, 3) := by decide +kernel
theorem dX5_carry_141 : decode cX5_carry 141 = .ok (.iload 11, 2) := by decide +kernel
theorem dX5_carry_143 : decode cX5_carry 143 = .ok (.goto 7, 3) := by decide +kernel
theorem dX5_carry_146 : decode cX5_carry 146 = .ok (.iconst 4, 1) := by decide +kernel
theorem dX5_carry_147 : decode cX5_carry 147 = .ok (.iload 11, 2) := by decide +kernel
theorem dX5_carry_149 : decode cX5_carry 149 = .ok (.iadd, 1) := by decide +kernel
theorem dX5_carry_150 : decode cX5_carry 150 = .ok (.aload_n 0, 1) := by decide +kernel
theorem dX5_carry_151 : decode cX5_carry 151 = .ok (.getfield 26, 3) := by decide +kernel
theorem dX5_carry_154 : decode cX5_carry 154 = .ok (.bipush 8, 2) := by decide +kernel
theorem dX5_carry_156 : decode cX5_carry 156 = .ok (.iload_n 1, 1) := by decide +kernel
theorem dX5_carry_157 : decode cX5_carry 157 = .ok (.imul, 1) := by decide +kernel
theorem dX5_carry_158 : decode cX5_carry 158 = .ok (.iload 11, 2) := by decide +kernel
theorem dX5_carry_160 : decode cX5_carry 160 = .ok (.iadd, 1) := by decide +kernel
theorem dX5_carry_161 : decode cX5_carry 161 = .ok (.iaload, 1) := by decide +kernel
theorem dX5_carry_162 : decode cX5_carry 162 = .ok (.invokevirtual 100, 3) := by decide +kernel
theorem dX5_carry_165 : decode cX5_carry 165 = .ok (.iinc 11 1, 3) := by decide +kernel
theorem dX5_carry_168 : decode cX5_carry 168 = .ok (.goto (-49), 3) := by decide +kernel
theorem dX5_carry_171 : decode cX5_carry 171 = .ok (.iload 9, 2) := by decide +kernel
theorem dX5_carry_173 : decode cX5_carry 173 = .ok (.ifCond .ne 13, 3) := by decide +kernel
theorem dX5_carry_176 : decode cX5_carry 176 = .ok (.aload_n 0, 1) := by decide +kernel
theorem dX5_carry_177 : decode cX5_carry 177 = .ok (.iconst 0, 1) := by decide +kernel
theorem dX5_carry_178 : decode cX5_carry 178 = .ok (.lload 7, 2) := by decide +kernel
theorem dX5_carry_180 : decode cX5_carry 180 = .ok (.invokevirtual 149, 3) := by decide +kernel
theorem dX5_carry_183 : decode cX5_carry 183 = .ok (.ifCond .eq 12, 3) := by decide +kernel
theorem dX5_carry_186 : decode cX5_carry 186 = .ok (.aload_n 0, 1) := by decide +kernel
theorem dX5_carry_187 : decode cX5_carry 187 = .ok (.iload 10, 2) := by decide +kernel
theorem dX5_carry_189 : decode cX5_carry 189 = .ok (.invokevirtual 104, 3) := by decide +kernel
theorem dX5_carry_192 : decode cX5_carry 192 = .ok (.ifCond .ne 5, 3) := by decide +kernel
theorem dX5_carry_195 : decode cX5_carry 195 = .ok (.iconst 0, 1) := by decide +kernel
theorem dX5_carry_196 : decode cX5_carry 196 = .ok (.ireturn, 1) := by decide +kernel
theorem dX5_carry_197 : decode cX5_carry 197 = .ok (.iinc 9 1, 3) := by decide +kernel
theorem dX5_carry_200 : decode cX5_carry 200 = .ok (.goto (-107), 3) := by decide +kernel
theorem dX5_carry_203 : decode cX5_carry 203 = .ok (.iconst 1, 1) := by decide +kernel
theorem dX5_carry_204 : decode cX5_carry 204 = .ok (.ireturn, 1) := by decide +kernel
theorem dX5_push_0 : decode cX5_push 0 = .ok (.iload_n 1, 1) := by decide +kernel
theorem dX5_push_1 : decode cX5_push 1 = .ok (.iconst 1, 1) := by decide +kernel
theorem dX5_push_2 : decode cX5_push 2 = .ok (.if_icmp .lt 19, 3) := by decide +kernel
theorem dX5_push_5 : decode cX5_push 5 = .ok (.iload_n 1, 1) := by decide +kernel
theorem dX5_push_6 : decode cX5_push 6 = .ok (.iconst 2, 1) := by decide +kernel
theorem dX5_push_7 : decode cX5_push 7 = .ok (.if_icmp .gt 14, 3) := by decide +kernel
theorem dX5_push_10 : decode cX5_push 10 = .ok (.iload_n 2, 1) := by decide +kernel
theorem dX5_push_11 : decode cX5_push 11 = .ok (.iconst 1, 1) := by decide +kernel
theorem dX5_push_12 : decode cX5_push 12 = .ok (.if_icmp .lt 9, 3) := by decide +kernel
theorem dX5_push_15 : decode cX5_push 15 = .ok (.iload_n 2, 1) := by decide +kernel
theorem dX5_push_16 : decode cX5_push 16 = .ok (.bipush 15, 2) := by decide +kernel
theorem dX5_push_18 : decode cX5_push 18 = .ok (.if_icmp .le 5, 3) := by decide +kernel
theorem dX5_push_21 : decode cX5_push 21 = .ok (.iconst (-1), 1) := by decide +kernel
theorem dX5_push_22 : decode cX5_push 22 = .ok (.ireturn, 1) := by decide +kernel
theorem dX5_push_23 : decode cX5_push 23 = .ok (.aload_n 0, 1) := by decide +kernel
theorem dX5_push_24 : decode cX5_push 24 = .ok (.getfield 29, 3) := by decide +kernel
theorem dX5_push_27 : decode cX5_push 27 = .ok (.iload_n 1, 1) := by decide +kernel
theorem dX5_push_28 : decode cX5_push 28 = .ok (.baload, 1) := by decide +kernel
theorem dX5_push_29 : decode cX5_push 29 = .ok (.ifCond .ne 12, 3) := by decide +kernel
theorem dX5_push_32 : decode cX5_push 32 = .ok (.aload_n 0, 1) := by decide +kernel
theorem dX5_push_33 : decode cX5_push 33 = .ok (.getfield 29, 3) := by decide +kernel
theorem dX5_push_36 : decode cX5_push 36 = .ok (.iconst 0, 1) := by decide +kernel
theorem dX5_push_37 : decode cX5_push 37 = .ok (.baload, 1) := by decide +kernel
end
section
theorem dX5_push_38 : decode cX5_push 38 = .ok (.ifCond .eq 6, 3) := by decide +kernel
theorem dX5_push_41 : decode cX5_push 41 = .ok (.bipush (-2), 2) := by decide +kernel
theorem dX5_push_43 : decode cX5_push 43 = .ok (.ireturn, 1) := by decide +kernel
theorem dX5_push_44 : decode cX5_push 44 = .ok (.iconst 0, 1) := by decide +kernel
theorem dX5_push_45 : decode cX5_push 45 = .ok (.istore_n 3, 1) := by decide +kernel
theorem dX5_push_46 : decode cX5_push 46 = .ok (.iload_n 3, 1) := by decide +kernel
theorem dX5_push_47 : decode cX5_push 47 = .ok (.iconst 4, 1) := by decide +kernel
theorem dX5_push_48 : decode cX5_push 48 = .ok (.if_icmp .ge 34, 3) := by decide +kernel
theorem dX5_push_51 : decode cX5_push 51 = .ok (.iload_n 2, 1) := by decide +kernel
theorem dX5_push_52 : decode cX5_push 52 = .ok (.iload_n 3, 1) := by decide +kernel
theorem dX5_push_53 : decode cX5_push 53 = .ok (.ishr, 1) := by decide +kernel
theorem dX5_push_54 : decode cX5_push 54 = .ok (.iconst 1, 1) := by decide +kernel
theorem dX5_push_55 : decode cX5_push 55 = .ok (.iand, 1) := by decide +kernel
theorem dX5_push_56 : decode cX5_push 56 = .ok (.iconst 1, 1) := by decide +kernel
theorem dX5_push_57 : decode cX5_push 57 = .ok (.if_icmp .ne 19, 3) := by decide +kernel
theorem dX5_push_60 : decode cX5_push 60 = .ok (.aload_n 0, 1) := by decide +kernel
theorem dX5_push_61 : decode cX5_push 61 = .ok (.getfield 26, 3) := by decide +kernel
theorem dX5_push_64 : decode cX5_push 64 = .ok (.bipush 8, 2) := by decide +kernel
theorem dX5_push_66 : decode cX5_push 66 = .ok (.iload_n 1, 1) := by decide +kernel
theorem dX5_push_67 : decode cX5_push 67 = .ok (.imul, 1) := by decide +kernel
theorem dX5_push_68 : decode cX5_push 68 = .ok (.iload_n 3, 1) := by decide +kernel
theorem dX5_push_69 : decode cX5_push 69 = .ok (.iadd, 1) := by decide +kernel
theorem dX5_push_70 : decode cX5_push 70 = .ok (.iaload, 1) := by decide +kernel
theorem dX5_push_71 : decode cX5_push 71 = .ok (.ifCond .ne 5, 3) := by decide +kernel
theorem dX5_push_74 : decode cX5_push 74 = .ok (.iconst (-1), 1) := by decide +kernel
theorem dX5_push_75 : decode cX5_push 75 = .ok (.ireturn, 1) := by decide +kernel
theorem dX5_push_76 : decode cX5_push 76 = .ok (.iinc 3 1, 3) := by decide +kernel
theorem dX5_push_79 : decode cX5_push 79 = .ok (.goto (-33), 3) := by decide +kernel
theorem dX5_push_82 : decode cX5_push 82 = .ok (.iconst 1, 1) := by decide +kernel
theorem dX5_push_83 : decode cX5_push 83 = .ok (.istore_n 3, 1) := by decide +kernel
theorem dX5_push_84 : decode cX5_push 84 = .ok (.iconst 0, 1) := by decide +kernel
theorem dX5_push_85 : decode cX5_push 85 = .ok (.istore 4, 2) := by decide +kernel
theorem dX5_push_87 : decode cX5_push 87 = .ok (.iload 4, 2) := by decide +kernel
theorem dX5_push_89 : decode cX5_push 89 = .ok (.iconst 4, 1) := by decide +kernel
theorem dX5_push_90 : decode cX5_push 90 = .ok (.if_icmp .ge 82, 3) := by decide +kernel
theorem dX5_push_93 : decode cX5_push 93 = .ok (.aload_n 0, 1) := by decide +kernel
theorem dX5_push_94 : decode cX5_push 94 = .ok (.getfield 54, 3) := by decide +kernel
theorem dX5_push_97 : decode cX5_push 97 = .ok (.iload 4, 2) := by decide +kernel
theorem dX5_push_99 : decode cX5_push 99 = .ok (.iload_n 2, 1) := by decide +kernel
theorem dX5_push_100 : decode cX5_push 100 = .ok (.iload 4, 2) := by decide +kernel
theorem dX5_push_102 : decode cX5_push 102 = .ok (.ishr, 1) := by decide +kernel
theorem dX5_push_103 : decode cX5_push 103 = .ok (.iconst 1, 1) := by decide +kernel
theorem dX5_push_104 : decode cX5_push 104 = .ok (.iand, 1) := by decide +kernel
theorem dX5_push_105 : decode cX5_push 105 = .ok (.ifCond .ne 7, 3) := by decide +kernel
theorem dX5_push_108 : decode cX5_push 108 = .ok (.iconst 0, 1) := by decide +kernel
theorem dX5_push_109 : decode cX5_push 109 = .ok (.goto 35, 3) := by decide +kernel
theorem dX5_push_112 : decode cX5_push 112 = .ok (.aload_n 0, 1) := by decide +kernel
theorem dX5_push_113 : decode cX5_push 113 = .ok (.iload 4, 2) := by decide +kernel
theorem dX5_push_115 : decode cX5_push 115 = .ok (.aload_n 0, 1) := by decide +kernel
theorem dX5_push_116 : decode cX5_push 116 = .ok (.getfield 26, 3) := by decide +kernel
theorem dX5_push_119 : decode cX5_push 119 = .ok (.bipush 8, 2) := by decide +kernel
theorem dX5_push_121 : decode cX5_push 121 = .ok (.iload_n 1, 1) := by decide +kernel
theorem dX5_push_122 : decode cX5_push 122 = .ok (.imul, 1) := by decide +kernel
theorem dX5_push_123 : decode cX5_push 123 = .ok (.iconst 4, 1) := by decide +kernel
theorem dX5_push_124 : decode cX5_push 124 = .ok (.iadd, 1) := by decide +kernel
theorem dX5_push_125 : decode cX5_push 125 = .ok (.iload 4, 2) := by decide +kernel
theorem dX5_push_127 : decode cX5_push 127 = .ok (.iadd, 1) := by decide +kernel
theorem dX5_push_128 : decode cX5_push 128 = .ok (.iaload, 1) := by decide +kernel
theorem dX5_push_129 : decode cX5_push 129 = .ok (.aload_n 0, 1) := by decide +kernel
theorem dX5_push_130 : decode cX5_push 130 = .ok (.getfield 26, 3) := by decide +kernel
theorem dX5_push_133 : decode cX5_push 133 = .ok (.bipush 8, 2) := by decide +kernel
theorem dX5_push_135 : decode cX5_push 135 = .ok (.iload_n 1, 1) := by decide +kernel
theorem dX5_push_136 : decode cX5_push 136 = .ok (.imul, 1) := by decide +kernel
theorem dX5_push_137 : decode cX5_push 137 = .ok (.iload 4, 2) := by decide +kernel
theorem dX5_push_139 : decode cX5_push 139 = .ok (.iadd, 1) := by decide +kernel
theorem dX5_push_140 : decode cX5_push 140 = .ok (.iaload, 1) := by decide +kernel
theorem dX5_push_141 : decode cX5_push 141 = .ok (.invokevirtual 153, 3) := by decide +kernel
theorem dX5_push_144 : decode cX5_push 144 = .ok (.iastore, 1) := by decide +kernel
theorem dX5_push_145 : decode cX5_push 145 = .ok (.iload_n 3, 1) := by decide +kernel
theorem dX5_push_146 : decode cX5_push 146 = .ok (.ifCond .eq 18, 3) := by decide +kernel
theorem dX5_push_149 : decode cX5_push 149 = .ok (.aload_n 0, 1) := by decide +kernel
theorem dX5_push_150 : decode cX5_push 150 = .ok (.getfield 54, 3) := by decide +kernel
theorem dX5_push_153 : decode cX5_push 153 = .ok (.iload 4, 2) := by decide +kernel
theorem dX5_push_155 : decode cX5_push 155 = .ok (.iaload, 1) := by decide +kernel
theorem dX5_push_156 : decode cX5_push 156 = .ok (.iconst 2, 1) := by decide +kernel
theorem dX5_push_157 : decode cX5_push 157 = .ok (.if_icmp .ge 7, 3) := by decide +kernel
theorem dX5_push_160 : decode cX5_push 160 = .ok (.iconst 1, 1) := by decide +kernel
theorem dX5_push_161 : decode cX5_push 161 = .ok (.goto 4, 3) := by decide +kernel
theorem dX5_push_164 : decode cX5_push 164 = .ok (.iconst 0, 1) := by decide +kernel
theorem dX5_push_165 : decode cX5_push 165 = .ok (.istore_n 3, 1) := by decide +kernel
theorem dX5_push_166 : decode cX5_push 166 = .ok (.iinc 4 1, 3) := by decide +kernel
theorem dX5_push_169 : decode cX5_push 169 = .ok (.goto (-82), 3) := by decide +kernel
theorem dX5_push_172 : decode cX5_push 172 = .ok (.iload_n 3, 1) := by decide +kernel
theorem dX5_push_173 : decode cX5_push 173 = .ok (.ifCond .ne 10, 3) := by decide +kernel
theorem dX5_push_176 : decode cX5_push 176 = .ok (.aload_n 0, 1) := by decide +kernel
theorem dX5_push_177 : decode cX5_push 177 = .ok (.iconst 0, 1) := by decide +kernel
theorem dX5_push_178 : decode cX5_push 178 = .ok (.putfield 107, 3) := by decide +kernel
theorem dX5_push_181 : decode cX5_push 181 = .ok (.iconst 0, 1) := by decide +kernel
theorem dX5_push_182 : decode cX5_push 182 = .ok (.ireturn, 1) := by decide +kernel
theorem dX5_push_183 : decode cX5_push 183 = .ok (.aload_n 0, 1) := by decide +kernel
theorem dX5_push_184 : decode cX5_push 184 = .ok (.iload_n 1, 1) := by decide +kernel
theorem dX5_push_185 : decode cX5_push 185 = .ok (.iload_n 2, 1) := by decide +kernel
theorem dX5_push_186 : decode cX5_push 186 = .ok (.invokevirtual 157, 3) := by decide +kernel
theorem dX5_push_189 : decode cX5_push 189 = .ok (.ifCond .eq 7, 3) := by decide +kernel
theorem dX5_push_192 : decode cX5_push 192 = .ok (.iconst 1, 1) := by decide +kernel
theorem dX5_push_193 : decode cX5_push 193 = .ok (.goto 5, 3) := by decide +kernel
theorem dX5_push_196 : decode cX5_push 196 = .ok (.bipush (-2), 2) := by decide +kernel
theorem dX5_push_198 : decode cX5_push 198 = .ok (.ireturn, 1) := by decide +kernel
theorem dX5_arm_0 : decode cX5_arm 0 = .ok (.iload_n 1, 1) := by decide +kernel
theorem dX5_arm_1 : decode cX5_arm 1 = .ok (.invokestatic 90, 3) := by decide +kernel
theorem dX5_arm_4 : decode cX5_arm 4 = .ok (.ifCond .eq 14, 3) := by decide +kernel
theorem dX5_arm_7 : decode cX5_arm 7 = .ok (.iload_n 2, 1) := by decide +kernel
theorem dX5_arm_8 : decode cX5_arm 8 = .ok (.iconst (-1), 1) := by decide +kernel
theorem dX5_arm_9 : decode cX5_arm 9 = .ok (.if_icmp .lt 9, 3) := by decide +kernel
theorem dX5_arm_12 : decode cX5_arm 12 = .ok (.iload_n 2, 1) := by decide +kernel
theorem dX5_arm_13 : decode cX5_arm 13 = .ok (.bipush 100, 2) := by decide +kernel
theorem dX5_arm_15 : decode cX5_arm 15 = .ok (.if_icmp .le 5, 3) := by decide +kernel
theorem dX5_arm_18 : decode cX5_arm 18 = .ok (.iconst 0, 1) := by decide +kernel
theorem dX5_arm_19 : decode cX5_arm 19 = .ok (.ireturn, 1) := by decide +kernel
theorem dX5_arm_20 : decode cX5_arm 20 = .ok (.aload_n 0, 1) := by decide +kernel
theorem dX5_arm_21 : decode cX5_arm 21 = .ok (.getfield 33, 3) := by decide +kernel
theorem dX5_arm_24 : decode cX5_arm 24 = .ok (.iload_n 1, 1) := by decide +kernel
theorem dX5_arm_25 : decode cX5_arm 25 = .ok (.iload_n 2, 1) := by decide +kernel
theorem dX5_arm_26 : decode cX5_arm 26 = .ok (.iconst 1, 1) := by decide +kernel
theorem dX5_arm_27 : decode cX5_arm 27 = .ok (.iadd, 1) := by decide +kernel
theorem dX5_arm_28 : decode cX5_arm 28 = .ok (.iastore, 1) := by decide +kernel
theorem dX5_arm_29 : decode cX5_arm 29 = .ok (.iconst 1, 1) := by decide +kernel
theorem dX5_arm_30 : decode cX5_arm 30 = .ok (.ireturn, 1) := by decide +kernel
theorem dX5_recover_0 : decode cX5_recover 0 = .ok (.iload_n 1, 1) := by decide +kernel
theorem dX5_recover_1 : decode cX5_recover 1 = .ok (.invokestatic 90, 3) := by decide +kernel
theorem dX5_recover_4 : decode cX5_recover 4 = .ok (.ifCond .eq 12, 3) := by decide +kernel
theorem dX5_recover_7 : decode cX5_recover 7 = .ok (.aload_n 0, 1) := by decide +kernel
theorem dX5_recover_8 : decode cX5_recover 8 = .ok (.getfield 29, 3) := by decide +kernel
theorem dX5_recover_11 : decode cX5_recover 11 = .ok (.iload_n 1, 1) := by decide +kernel
theorem dX5_recover_12 : decode cX5_recover 12 = .ok (.baload, 1) := by decide +kernel
theorem dX5_recover_13 : decode cX5_recover 13 = .ok (.ifCond .ne 5, 3) := by decide +kernel
theorem dX5_recover_16 : decode cX5_recover 16 = .ok (.iconst (-1), 1) := by decide +kernel
theorem dX5_recover_17 : decode cX5_recover 17 = .ok (.ireturn, 1) := by decide +kernel
theorem dX5_recover_18 : decode cX5_recover 18 = .ok (.aload_n 0, 1) := by decide +kernel
theorem dX5_recover_19 : decode cX5_recover 19 = .ok (.getfield 39, 3) := by decide +kernel
theorem dX5_recover_22 : decode cX5_recover 22 = .ok (.iload_n 1, 1) := by decide +kernel
theorem dX5_recover_23 : decode cX5_recover 23 = .ok (.baload, 1) := by decide +kernel
theorem dX5_recover_24 : decode cX5_recover 24 = .ok (.ifCond .eq 12, 3) := by decide +kernel
theorem dX5_recover_27 : decode cX5_recover 27 = .ok (.aload_n 0, 1) := by decide +kernel
theorem dX5_recover_28 : decode cX5_recover 28 = .ok (.getfield 36, 3) := by decide +kernel
theorem dX5_recover_31 : decode cX5_recover 31 = .ok (.iload_n 1, 1) := by decide +kernel
theorem dX5_recover_32 : decode cX5_recover 32 = .ok (.iaload, 1) := by decide +kernel
theorem dX5_recover_33 : decode cX5_recover 33 = .ok (.goto 4, 3) := by decide +kernel
theorem dX5_recover_36 : decode cX5_recover 36 = .ok (.iconst 0, 1) := by decide +kernel
theorem dX5_recover_37 : decode cX5_recover 37 = .ok (.istore_n 2, 1) := by decide +kernel
theorem dX5_recover_38 : decode cX5_recover 38 = .ok (.aload_n 0, 1) := by decide +kernel
theorem dX5_recover_39 : decode cX5_recover 39 = .ok (.getfield 39, 3) := by decide +kernel
theorem dX5_recover_42 : decode cX5_recover 42 = .ok (.iload_n 1, 1) := by decide +kernel
theorem dX5_recover_43 : decode cX5_recover 43 = .ok (.baload, 1) := by decide +kernel
theorem dX5_recover_44 : decode cX5_recover 44 = .ok (.ifCond .eq 11, 3) := by decide +kernel
theorem dX5_recover_47 : decode cX5_recover 47 = .ok (.aload_n 0, 1) := by decide +kernel
theorem dX5_recover_48 : decode cX5_recover 48 = .ok (.iload_n 1, 1) := by decide +kernel
theorem dX5_recover_49 : decode cX5_recover 49 = .ok (.invokevirtual 84, 3) := by decide +kernel
theorem dX5_recover_52 : decode cX5_recover 52 = .ok (.goto 25, 3) := by decide +kernel
theorem dX5_recover_55 : decode cX5_recover 55 = .ok (.aload_n 0, 1) := by decide +kernel
theorem dX5_recover_56 : decode cX5_recover 56 = .ok (.getfield 36, 3) := by decide +kernel
theorem dX5_recover_59 : decode cX5_recover 59 = .ok (.iload_n 1, 1) := by decide +kernel
theorem dX5_recover_60 : decode cX5_recover 60 = .ok (.iaload, 1) := by decide +kernel
theorem dX5_recover_61 : decode cX5_recover 61 = .ok (.ifCond .eq 11, 3) := by decide +kernel
theorem dX5_recover_64 : decode cX5_recover 64 = .ok (.aload_n 0, 1) := by decide +kernel
theorem dX5_recover_65 : decode cX5_recover 65 = .ok (.iload_n 1, 1) := by decide +kernel
theorem dX5_recover_66 : decode cX5_recover 66 = .ok (.invokevirtual 87, 3) := by decide +kernel
theorem dX5_recover_69 : decode cX5_recover 69 = .ok (.ifCond .eq 7, 3) := by decide +kernel
theorem dX5_recover_72 : decode cX5_recover 72 = .ok (.iconst 1, 1) := by decide +kernel
theorem dX5_recover_73 : decode cX5_recover 73 = .ok (.goto 4, 3) := by decide +kernel
theorem dX5_recover_76 : decode cX5_recover 76 = .ok (.iconst 0, 1) := by decide +kernel
theorem dX5_recover_77 : decode cX5_recover 77 = .ok (.istore_n 3, 1) := by decide +kernel
theorem dX5_recover_78 : decode cX5_recover 78 = .ok (.iload_n 3, 1) := by decide +kernel
theorem dX5_recover_79 : decode cX5_recover 79 = .ok (.ifCond .ne 6, 3) := by decide +kernel
theorem dX5_recover_82 : decode cX5_recover 82 = .ok (.bipush (-2), 2) := by decide +kernel
theorem dX5_recover_84 : decode cX5_recover 84 = .ok (.ireturn, 1) := by decide +kernel
theorem dX5_recover_85 : decode cX5_recover 85 = .ok (.aload_n 0, 1) := by decide +kernel
theorem dX5_recover_86 : decode cX5_recover 86 = .ok (.getfield 29, 3) := by decide +kernel
theorem dX5_recover_89 : decode cX5_recover 89 = .ok (.iload_n 1, 1) := by decide +kernel
theorem dX5_recover_90 : decode cX5_recover 90 = .ok (.iconst 0, 1) := by decide +kernel
theorem dX5_recover_91 : decode cX5_recover 91 = .ok (.bastore, 1) := by decide +kernel
theorem dX5_recover_92 : decode cX5_recover 92 = .ok (.iload_n 2, 1) := by decide +kernel
theorem dX5_recover_93 : decode cX5_recover 93 = .ok (.ireturn, 1) := by decide +kernel
theorem dX5_collect_0 : decode cX5_collect 0 = .ok (.iload_n 1, 1) := by decide +kernel
theorem dX5_collect_1 : decode cX5_collect 1 = .ok (.invokestatic 90, 3) := by decide +kernel
theorem dX5_collect_4 : decode cX5_collect 4 = .ok (.ifCond .ne 5, 3) := by decide +kernel
theorem dX5_collect_7 : decode cX5_collect 7 = .ok (.iconst (-1), 1) := by decide +kernel
theorem dX5_collect_8 : decode cX5_collect 8 = .ok (.ireturn, 1) := by decide +kernel
theorem dX5_collect_9 : decode cX5_collect 9 = .ok (.aload_n 0, 1) := by decide +kernel
theorem dX5_collect_10 : decode cX5_collect 10 = .ok (.getfield 29, 3) := by decide +kernel
theorem dX5_collect_13 : decode cX5_collect 13 = .ok (.iload_n 1, 1) := by decide +kernel
theorem dX5_collect_14 : decode cX5_collect 14 = .ok (.baload, 1) := by decide +kernel
theorem dX5_collect_15 : decode cX5_collect 15 = .ok (.ifCond .eq 6, 3) := by decide +kernel
theorem dX5_collect_18 : decode cX5_collect 18 = .ok (.bipush (-2), 2) := by decide +kernel
theorem dX5_collect_20 : decode cX5_collect 20 = .ok (.ireturn, 1) := by decide +kernel
theorem dX5_collect_21 : decode cX5_collect 21 = .ok (.aload_n 0, 1) := by decide +kernel
theorem dX5_collect_22 : decode cX5_collect 22 = .ok (.getfield 22, 3) := by decide +kernel
theorem dX5_collect_25 : decode cX5_collect 25 = .ok (.iload_n 1, 1) := by decide +kernel
theorem dX5_collect_26 : decode cX5_collect 26 = .ok (.laload, 1) := by decide +kernel
theorem dX5_collect_27 : decode cX5_collect 27 = .ok (.aload_n 0, 1) := by decide +kernel
theorem dX5_collect_28 : decode cX5_collect 28 = .ok (.aload_n 0, 1) := by decide +kernel
theorem dX5_collect_29 : decode cX5_collect 29 = .ok (.iload_n 1, 1) := by decide +kernel
theorem dX5_collect_30 : decode cX5_collect 30 = .ok (.iconst 0, 1) := by decide +kernel
theorem dX5_collect_31 : decode cX5_collect 31 = .ok (.bipush 7, 2) := by decide +kernel
theorem dX5_collect_33 : decode cX5_collect 33 = .ok (.invokevirtual 118, 3) := by decide +kernel
theorem dX5_collect_36 : decode cX5_collect 36 = .ok (.invokevirtual 114, 3) := by decide +kernel
theorem dX5_collect_39 : decode cX5_collect 39 = .ok (.land, 1) := by decide +kernel
theorem dX5_collect_40 : decode cX5_collect 40 = .ok (.lstore_n 2, 1) := by decide +kernel
theorem dX5_collect_41 : decode cX5_collect 41 = .ok (.aload_n 0, 1) := by decide +kernel
theorem dX5_collect_42 : decode cX5_collect 42 = .ok (.getfield 22, 3) := by decide +kernel
theorem dX5_collect_45 : decode cX5_collect 45 = .ok (.iload_n 1, 1) := by decide +kernel
theorem dX5_collect_46 : decode cX5_collect 46 = .ok (.laload, 1) := by decide +kernel
theorem dX5_collect_47 : decode cX5_collect 47 = .ok (.invokestatic 133, 3) := by decide +kernel
theorem dX5_collect_50 : decode cX5_collect 50 = .ok (.lload_n 2, 1) := by decide +kernel
theorem dX5_collect_51 : decode cX5_collect 51 = .ok (.invokestatic 133, 3) := by decide +kernel
theorem dX5_collect_54 : decode cX5_collect 54 = .ok (.isub, 1) := by decide +kernel
theorem dX5_collect_55 : decode cX5_collect 55 = .ok (.istore 4, 2) := by decide +kernel
theorem dX5_collect_57 : decode cX5_collect 57 = .ok (.aload_n 0, 1) := by decide +kernel
theorem dX5_collect_58 : decode cX5_collect 58 = .ok (.getfield 22, 3) := by decide +kernel
theorem dX5_collect_61 : decode cX5_collect 61 = .ok (.iload_n 1, 1) := by decide +kernel
theorem dX5_collect_62 : decode cX5_collect 62 = .ok (.lload_n 2, 1) := by decide +kernel
theorem dX5_collect_63 : decode cX5_collect 63 = .ok (.lastore, 1) := by decide +kernel
theorem dX5_collect_64 : decode cX5_collect 64 = .ok (.iload 4, 2) := by decide +kernel
theorem dX5_collect_66 : decode cX5_collect 66 = .ok (.ireturn, 1) := by decide +kernel
theorem dX5_up_0 : decode cX5_up 0 = .ok (.iload_n 1, 1) := by decide +kernel
theorem dX5_up_1 : decode cX5_up 1 = .ok (.invokestatic 90, 3) := by decide +kernel
theorem dX5_up_4 : decode cX5_up 4 = .ok (.ifCond .eq 16, 3) := by decide +kernel
theorem dX5_up_7 : decode cX5_up 7 = .ok (.aload_n 0, 1) := by decide +kernel
theorem dX5_up_8 : decode cX5_up 8 = .ok (.getfield 29, 3) := by decide +kernel
theorem dX5_up_11 : decode cX5_up 11 = .ok (.iload_n 1, 1) := by decide +kernel
theorem dX5_up_12 : decode cX5_up 12 = .ok (.baload, 1) := by decide +kernel
theorem dX5_up_13 : decode cX5_up 13 = .ok (.ifCond .ne 7, 3) := by decide +kernel
theorem dX5_up_16 : decode cX5_up 16 = .ok (.iconst 1, 1) := by decide +kernel
theorem dX5_up_17 : decode cX5_up 17 = .ok (.goto 4, 3) := by decide +kernel
theorem dX5_up_20 : decode cX5_up 20 = .ok (.iconst 0, 1) := by decide +kernel
theorem dX5_up_21 : decode cX5_up 21 = .ok (.ireturn, 1) := by decide +kernel
theorem dX5_reference_0 : decode cX5_reference 0 = .ok (.iload_n 1, 1) := by decide +kernel
theorem dX5_reference_1 : decode cX5_reference 1 = .ok (.invokestatic 90, 3) := by decide +kernel
theorem dX5_reference_4 : decode cX5_reference 4 = .ok (.ifCond .eq 13, 3) := by decide +kernel
theorem dX5_reference_7 : decode cX5_reference 7 = .ok (.iload_n 2, 1) := by decide +kernel
theorem dX5_reference_8 : decode cX5_reference 8 = .ok (.ifCond .lt 9, 3) := by decide +kernel
theorem dX5_reference_11 : decode cX5_reference 11 = .ok (.iload_n 2, 1) := by decide +kernel
theorem dX5_reference_12 : decode cX5_reference 12 = .ok (.bipush 7, 2) := by decide +kernel
theorem dX5_reference_14 : decode cX5_reference 14 = .ok (.if_icmp .le 5, 3) := by decide +kernel
theorem dX5_reference_17 : decode cX5_reference 17 = .ok (.iconst (-1), 1) := by decide +kernel
theorem dX5_reference_18 : decode cX5_reference 18 = .ok (.ireturn, 1) := by decide +kernel
theorem dX5_reference_19 : decode cX5_reference 19 = .ok (.aload_n 0, 1) := by decide +kernel
theorem dX5_reference_20 : decode cX5_reference 20 = .ok (.getfield 29, 3) := by decide +kernel
theorem dX5_reference_23 : decode cX5_reference 23 = .ok (.iload_n 1, 1) := by decide +kernel
theorem dX5_reference_24 : decode cX5_reference 24 = .ok (.baload, 1) := by decide +kernel
theorem dX5_reference_25 : decode cX5_reference 25 = .ok (.ifCond .eq 6, 3) := by decide +kernel
theorem dX5_reference_28 : decode cX5_reference 28 = .ok (.bipush (-2), 2) := by decide +kernel
theorem dX5_reference_30 : decode cX5_reference 30 = .ok (.ireturn, 1) := by decide +kernel
theorem dX5_reference_31 : decode cX5_reference 31 = .ok (.aload_n 0, 1) := by decide +kernel
theorem dX5_reference_32 : decode cX5_reference 32 = .ok (.getfield 26, 3) := by decide +kernel
theorem dX5_reference_35 : decode cX5_reference 35 = .ok (.bipush 8, 2) := by decide +kernel
theorem dX5_reference_37 : decode cX5_reference 37 = .ok (.iload_n 1, 1) := by decide +kernel
theorem dX5_reference_38 : decode cX5_reference 38 = .ok (.imul, 1) := by decide +kernel
theorem dX5_reference_39 : decode cX5_reference 39 = .ok (.iload_n 2, 1) := by decide +kernel
theorem dX5_reference_40 : decode cX5_reference 40 = .ok (.iadd, 1) := by decide +kernel
theorem dX5_reference_41 : decode cX5_reference 41 = .ok (.iaload, 1) := by decide +kernel
theorem dX5_reference_42 : decode cX5_reference 42 = .ok (.istore_n 3, 1) := by decide +kernel
theorem dX5_reference_43 : decode cX5_reference 43 = .ok (.iload_n 3, 1) := by decide +kernel
theorem dX5_reference_44 : decode cX5_reference 44 = .ok (.ifCond .ne 8, 3) := by decide +kernel
theorem dX5_reference_47 : decode cX5_reference 47 = .ok (.bipush (-4), 2) := by decide +kernel
theorem dX5_reference_49 : decode cX5_reference 49 = .ok (.goto 6, 3) := by decide +kernel
theorem dX5_reference_52 : decode cX5_reference 52 = .ok (.iload_n 3, 1) := by decide +kernel
theorem dX5_reference_53 : decode cX5_reference 53 = .ok (.iconst 1, 1) := by decide +kernel
theorem dX5_reference_54 : decode cX5_reference 54 = .ok (.isub, 1) := by decide +kernel
theorem dX5_reference_55 : decode cX5_reference 55 = .ok (.ireturn, 1) := by decide +kernel
theorem dX5_holds_0 : decode cX5_holds 0 = .ok (.iload_n 1, 1) := by decide +kernel
theorem dX5_holds_1 : decode cX5_holds 1 = .ok (.invokestatic 90, 3) := by decide +kernel
theorem dX5_holds_4 : decode cX5_holds 4 = .ok (.ifCond .ne 5, 3) := by decide +kernel
theorem dX5_holds_7 : decode cX5_holds 7 = .ok (.iconst (-1), 1) := by decide +kernel
theorem dX5_holds_8 : decode cX5_holds 8 = .ok (.ireturn, 1) := by decide +kernel
theorem dX5_holds_9 : decode cX5_holds 9 = .ok (.aload_n 0, 1) := by decide +kernel
theorem dX5_holds_10 : decode cX5_holds 10 = .ok (.getfield 29, 3) := by decide +kernel
theorem dX5_holds_13 : decode cX5_holds 13 = .ok (.iload_n 1, 1) := by decide +kernel
theorem dX5_holds_14 : decode cX5_holds 14 = .ok (.baload, 1) := by decide +kernel
theorem dX5_holds_15 : decode cX5_holds 15 = .ok (.ifCond .eq 8, 3) := by decide +kernel
theorem dX5_holds_18 : decode cX5_holds 18 = .ok (.bipush (-2), 2) := by decide +kernel
theorem dX5_holds_20 : decode cX5_holds 20 = .ok (.goto 17, 3) := by decide +kernel
theorem dX5_holds_23 : decode cX5_holds 23 = .ok (.aload_n 0, 1) := by decide +kernel
theorem dX5_holds_24 : decode cX5_holds 24 = .ok (.iload_n 1, 1) := by decide +kernel
theorem dX5_holds_25 : decode cX5_holds 25 = .ok (.iload_n 2, 1) := by decide +kernel
theorem dX5_holds_26 : decode cX5_holds 26 = .ok (.invokevirtual 73, 3) := by decide +kernel
theorem dX5_holds_29 : decode cX5_holds 29 = .ok (.ifCond .eq 7, 3) := by decide +kernel
theorem dX5_holds_32 : decode cX5_holds 32 = .ok (.iconst 1, 1) := by decide +kernel
theorem dX5_holds_33 : decode cX5_holds 33 = .ok (.goto 4, 3) := by decide +kernel
theorem dX5_holds_36 : decode cX5_holds 36 = .ok (.iconst 0, 1) := by decide +kernel
theorem dX5_holds_37 : decode cX5_holds 37 = .ok (.ireturn, 1) := by decide +kernel
theorem dX5_count_0 : decode cX5_count 0 = .ok (.iload_n 1, 1) := by decide +kernel
theorem dX5_count_1 : decode cX5_count 1 = .ok (.invokestatic 90, 3) := by decide +kernel
theorem dX5_count_4 : decode cX5_count 4 = .ok (.ifCond .ne 5, 3) := by decide +kernel
theorem dX5_count_7 : decode cX5_count 7 = .ok (.iconst (-1), 1) := by decide +kernel
theorem dX5_count_8 : decode cX5_count 8 = .ok (.ireturn, 1) := by decide +kernel
theorem dX5_count_9 : decode cX5_count 9 = .ok (.aload_n 0, 1) := by decide +kernel
theorem dX5_count_10 : decode cX5_count 10 = .ok (.getfield 29, 3) := by decide +kernel
theorem dX5_count_13 : decode cX5_count 13 = .ok (.iload_n 1, 1) := by decide +kernel
theorem dX5_count_14 : decode cX5_count 14 = .ok (.baload, 1) := by decide +kernel
theorem dX5_count_15 : decode cX5_count 15 = .ok (.ifCond .eq 8, 3) := by decide +kernel
theorem dX5_count_18 : decode cX5_count 18 = .ok (.bipush (-2), 2) := by decide +kernel
theorem dX5_count_20 : decode cX5_count 20 = .ok (.goto 12, 3) := by decide +kernel
theorem dX5_count_23 : decode cX5_count 23 = .ok (.aload_n 0, 1) := by decide +kernel
theorem dX5_count_24 : decode cX5_count 24 = .ok (.getfield 22, 3) := by decide +kernel
theorem dX5_count_27 : decode cX5_count 27 = .ok (.iload_n 1, 1) := by decide +kernel
theorem dX5_count_28 : decode cX5_count 28 = .ok (.laload, 1) := by decide +kernel
theorem dX5_count_29 : decode cX5_count 29 = .ok (.invokestatic 133, 3) := by decide +kernel
theorem dX5_count_32 : decode cX5_count 32 = .ok (.ireturn, 1) := by decide +kernel
theorem dX5_talk_0 : decode cX5_talk 0 = .ok (.iload_n 1, 1) := by decide +kernel
theorem dX5_talk_1 : decode cX5_talk 1 = .ok (.ifCond .lt 8, 3) := by decide +kernel
theorem dX5_talk_4 : decode cX5_talk 4 = .ok (.iload_n 1, 1) := by decide +kernel
theorem dX5_talk_5 : decode cX5_talk 5 = .ok (.iconst 2, 1) := by decide +kernel
theorem dX5_talk_6 : decode cX5_talk 6 = .ok (.if_icmp .le 5, 3) := by decide +kernel
theorem dX5_talk_9 : decode cX5_talk 9 = .ok (.iconst (-1), 1) := by decide +kernel
theorem dX5_talk_10 : decode cX5_talk 10 = .ok (.ireturn, 1) := by decide +kernel
theorem dX5_talk_11 : decode cX5_talk 11 = .ok (.iload_n 1, 1) := by decide +kernel
theorem dX5_talk_12 : decode cX5_talk 12 = .ok (.ifCond .ne 10, 3) := by decide +kernel
theorem dX5_talk_15 : decode cX5_talk 15 = .ok (.aload_n 0, 1) := by decide +kernel
theorem dX5_talk_16 : decode cX5_talk 16 = .ok (.getfield 127, 3) := by decide +kernel
theorem dX5_talk_19 : decode cX5_talk 19 = .ok (.goto 19, 3) := by decide +kernel
theorem dX5_talk_22 : decode cX5_talk 22 = .ok (.iload_n 1, 1) := by decide +kernel
theorem dX5_talk_23 : decode cX5_talk 23 = .ok (.iconst 1, 1) := by decide +kernel
theorem dX5_talk_24 : decode cX5_talk 24 = .ok (.if_icmp .ne 10, 3) := by decide +kernel
theorem dX5_talk_27 : decode cX5_talk 27 = .ok (.aload_n 0, 1) := by decide +kernel
theorem dX5_talk_28 : decode cX5_talk 28 = .ok (.getfield 130, 3) := by decide +kernel
theorem dX5_talk_31 : decode cX5_talk 31 = .ok (.goto 7, 3) := by decide +kernel
theorem dX5_talk_34 : decode cX5_talk 34 = .ok (.aload_n 0, 1) := by decide +kernel
theorem dX5_talk_35 : decode cX5_talk 35 = .ok (.getfield 124, 3) := by decide +kernel
theorem dX5_talk_38 : decode cX5_talk 38 = .ok (.ireturn, 1) := by decide +kernel
theorem dX5_packed_0 : decode cX5_packed 0 = .ok (.aload_n 0, 1) := by decide +kernel
theorem dX5_packed_1 : decode cX5_packed 1 = .ok (.getfield 107, 3) := by decide +kernel
theorem dX5_packed_4 : decode cX5_packed 4 = .ok (.ireturn, 1) := by decide +kernel
theorem dX5_packAt_0 : decode cX5_packAt 0 = .ok (.iload_n 1, 1) := by decide +kernel
theorem dX5_packAt_1 : decode cX5_packAt 1 = .ok (.ifCond .lt 11, 3) := by decide +kernel
theorem dX5_packAt_4 : decode cX5_packAt 4 = .ok (.iload_n 1, 1) := by decide +kernel
theorem dX5_packAt_5 : decode cX5_packAt 5 = .ok (.aload_n 0, 1) := by decide +kernel
theorem dX5_packAt_6 : decode cX5_packAt 6 = .ok (.getfield 107, 3) := by decide +kernel
theorem dX5_packAt_9 : decode cX5_packAt 9 = .ok (.if_icmp .lt 8, 3) := by decide +kernel
theorem dX5_packAt_12 : decode cX5_packAt 12 = .ok (.bipush (-4), 2) := by decide +kernel
theorem dX5_packAt_14 : decode cX5_packAt 14 = .ok (.goto 9, 3) := by decide +kernel
theorem dX5_packAt_17 : decode cX5_packAt 17 = .ok (.aload_n 0, 1) := by decide +kernel
theorem dX5_packAt_18 : decode cX5_packAt 18 = .ok (.getfield 57, 3) := by decide +kernel
theorem dX5_packAt_21 : decode cX5_packAt 21 = .ok (.iload_n 1, 1) := by decide +kernel
theorem dX5_packAt_22 : decode cX5_packAt 22 = .ok (.iaload, 1) := by decide +kernel
theorem dX5_packAt_23 : decode cX5_packAt 23 = .ok (.ireturn, 1) := by decide +kernel
theorem dX5_base_0 : decode cX5_base 0 = .ok (.iload_n 1, 1) := by decide +kernel
theorem dX5_base_1 : decode cX5_base 1 = .ok (.ifCond .lt 11, 3) := by decide +kernel
theorem dX5_base_4 : decode cX5_base 4 = .ok (.iload_n 1, 1) := by decide +kernel
theorem dX5_base_5 : decode cX5_base 5 = .ok (.aload_n 0, 1) := by decide +kernel
theorem dX5_base_6 : decode cX5_base 6 = .ok (.getfield 107, 3) := by decide +kernel
theorem dX5_base_9 : decode cX5_base 9 = .ok (.if_icmp .lt 8, 3) := by decide +kernel
theorem dX5_base_12 : decode cX5_base 12 = .ok (.bipush (-4), 2) := by decide +kernel
theorem dX5_base_14 : decode cX5_base 14 = .ok (.goto 9, 3) := by decide +kernel
theorem dX5_base_17 : decode cX5_base 17 = .ok (.aload_n 0, 1) := by decide +kernel
theorem dX5_base_18 : decode cX5_base 18 = .ok (.getfield 60, 3) := by decide +kernel
theorem dX5_base_21 : decode cX5_base 21 = .ok (.iload_n 1, 1) := by decide +kernel
theorem dX5_base_22 : decode cX5_base 22 = .ok (.iaload, 1) := by decide +kernel
theorem dX5_base_23 : decode cX5_base 23 = .ok (.ireturn, 1) := by decide +kernel
theorem dX5_weight_0 : decode cX5_weight 0 = .ok (.iconst 0, 1) := by decide +kernel
theorem dX5_weight_1 : decode cX5_weight 1 = .ok (.istore_n 1, 1) := by decide +kernel
theorem dX5_weight_2 : decode cX5_weight 2 = .ok (.iconst 0, 1) := by decide +kernel
theorem dX5_weight_3 : decode cX5_weight 3 = .ok (.istore_n 2, 1) := by decide +kernel
theorem dX5_weight_4 : decode cX5_weight 4 = .ok (.iload_n 2, 1) := by decide +kernel
theorem dX5_weight_5 : decode cX5_weight 5 = .ok (.aload_n 0, 1) := by decide +kernel
theorem dX5_weight_6 : decode cX5_weight 6 = .ok (.getfield 107, 3) := by decide +kernel
theorem dX5_weight_9 : decode cX5_weight 9 = .ok (.if_icmp .ge 18, 3) := by decide +kernel
theorem dX5_weight_12 : decode cX5_weight 12 = .ok (.iload_n 1, 1) := by decide +kernel
theorem dX5_weight_13 : decode cX5_weight 13 = .ok (.aload_n 0, 1) := by decide +kernel
theorem dX5_weight_14 : decode cX5_weight 14 = .ok (.getfield 66, 3) := by decide +kernel
theorem dX5_weight_17 : decode cX5_weight 17 = .ok (.iload_n 2, 1) := by decide +kernel
theorem dX5_weight_18 : decode cX5_weight 18 = .ok (.iaload, 1) := by decide +kernel
theorem dX5_weight_19 : decode cX5_weight 19 = .ok (.iadd, 1) := by decide +kernel
theorem dX5_weight_20 : decode cX5_weight 20 = .ok (.istore_n 1, 1) := by decide +kernel
theorem dX5_weight_21 : decode cX5_weight 21 = .ok (.iinc 2 1, 3) := by decide +kernel
theorem dX5_weight_24 : decode cX5_weight 24 = .ok (.goto (-20), 3) := by decide +kernel
theorem dX5_weight_27 : decode cX5_weight 27 = .ok (.iload_n 1, 1) := by decide +kernel
theorem dX5_weight_28 : decode cX5_weight 28 = .ok (.ireturn, 1) := by decide +kernel
theorem dX5_verdict_0 : decode cX5_verdict 0 = .ok (.iload_n 1, 1) := by decide +kernel
theorem dX5_verdict_1 : decode cX5_verdict 1 = .ok (.ifCond .lt 8, 3) := by decide +kernel
theorem dX5_verdict_4 : decode cX5_verdict 4 = .ok (.iload_n 1, 1) := by decide +kernel
theorem dX5_verdict_5 : decode cX5_verdict 5 = .ok (.iconst 3, 1) := by decide +kernel
theorem dX5_verdict_6 : decode cX5_verdict 6 = .ok (.if_icmp .le 7, 3) := by decide +kernel
theorem dX5_verdict_9 : decode cX5_verdict 9 = .ok (.iconst 0, 1) := by decide +kernel
theorem dX5_verdict_10 : decode cX5_verdict 10 = .ok (.goto 9, 3) := by decide +kernel
theorem dX5_verdict_13 : decode cX5_verdict 13 = .ok (.aload_n 0, 1) := by decide +kernel
theorem dX5_verdict_14 : decode cX5_verdict 14 = .ok (.getfield 54, 3) := by decide +kernel
theorem dX5_verdict_17 : decode cX5_verdict 17 = .ok (.iload_n 1, 1) := by decide +kernel
theorem dX5_verdict_18 : decode cX5_verdict 18 = .ok (.iaload, 1) := by decide +kernel
theorem dX5_verdict_19 : decode cX5_verdict 19 = .ok (.ireturn, 1) := by decide +kernel
theorem dX0_init_0 : decode cX0_init 0 = .ok (.aload_n 0, 1) := by decide +kernel
theorem dX0_init_1 : decode cX0_init 1 = .ok (.invokespecial 3, 3) := by decide +kernel
theorem dX0_init_4 : decode cX0_init 4 = .ok (.aload_n 0, 1) := by decide +kernel
theorem dX0_init_5 : decode cX0_init 5 = .ok (.bipush 8, 2) := by decide +kernel
theorem dX0_init_7 : decode cX0_init 7 = .ok (.newarray .int, 2) := by decide +kernel
theorem dX0_init_9 : decode cX0_init 9 = .ok (.putfield 9, 3) := by decide +kernel
theorem dX0_init_12 : decode cX0_init 12 = .ok (.aload_n 0, 1) := by decide +kernel
theorem dX0_init_13 : decode cX0_init 13 = .ok (.bipush 8, 2) := by decide +kernel
theorem dX0_init_15 : decode cX0_init 15 = .ok (.newarray .int, 2) := by decide +kernel
theorem dX0_init_17 : decode cX0_init 17 = .ok (.putfield 15, 3) := by decide +kernel
theorem dX0_init_20 : decode cX0_init 20 = .ok (.aload_n 0, 1) := by decide +kernel
theorem dX0_init_21 : decode cX0_init 21 = .ok (.iconst 0, 1) := by decide +kernel
theorem dX0_init_22 : decode cX0_init 22 = .ok (.putfield 18, 3) := by decide +kernel
theorem dX0_init_25 : decode cX0_init 25 = .ok (.aload_n 0, 1) := by decide +kernel
theorem dX0_init_26 : decode cX0_init 26 = .ok (.iconst 0, 1) := by decide +kernel
theorem dX0_init_27 : decode cX0_init 27 = .ok (.putfield 22, 3) := by decide +kernel
theorem dX0_init_30 : decode cX0_init 30 = .ok (.aload_n 0, 1) := by decide +kernel
theorem dX0_init_31 : decode cX0_init 31 = .ok (.lconst 0, 1) := by decide +kernel
theorem dX0_init_32 : decode cX0_init 32 = .ok (.putfield 26, 3) := by decide +kernel
theorem dX0_init_35 : decode cX0_init 35 = .ok (.aload_n 0, 1) := by decide +kernel
theorem dX0_init_36 : decode cX0_init 36 = .ok (.iconst 1, 1) := by decide +kernel
theorem dX0_init_37 : decode cX0_init 37 = .ok (.putfield 30, 3) := by decide +kernel
theorem dX0_init_40 : decode cX0_init 40 = .ok (.aload_n 0, 1) := by decide +kernel
theorem dX0_init_41 : decode cX0_init 41 = .ok (.iconst (-1), 1) := by decide +kernel
theorem dX0_init_42 : decode cX0_init 42 = .ok (.putfield 33, 3) := by decide +kernel
theorem dX0_init_45 : decode cX0_init 45 = .ok (.iconst 0, 1) := by decide +kernel
theorem dX0_init_46 : decode cX0_init 46 = .ok (.istore_n 1, 1) := by decide +kernel
theorem dX0_init_47 : decode cX0_init 47 = .ok (.iload_n 1, 1) := by decide +kernel
theorem dX0_init_48 : decode cX0_init 48 = .ok (.bipush 8, 2) := by decide +kernel
theorem dX0_init_50 : decode cX0_init 50 = .ok (.if_icmp .ge 24, 3) := by decide +kernel
theorem dX0_init_53 : decode cX0_init 53 = .ok (.aload_n 0, 1) := by decide +kernel
theorem dX0_init_54 : decode cX0_init 54 = .ok (.getfield 9, 3) := by decide +kernel
theorem dX0_init_57 : decode cX0_init 57 = .ok (.iload_n 1, 1) := by decide +kernel
theorem dX0_init_58 : decode cX0_init 58 = .ok (.iconst (-1), 1) := by decide +kernel
theorem dX0_init_59 : decode cX0_init 59 = .ok (.iastore, 1) := by decide +kernel
theorem dX0_init_60 : decode cX0_init 60 = .ok (.aload_n 0, 1) := by decide +kernel
theorem dX0_init_61 : decode cX0_init 61 = .ok (.getfield 15, 3) := by decide +kernel
theorem dX0_init_64 : decode cX0_init 64 = .ok (.iload_n 1, 1) := by decide +kernel
theorem dX0_init_65 : decode cX0_init 65 = .ok (.bipush (-2), 2) := by decide +kernel
theorem dX0_init_67 : decode cX0_init 67 = .ok (.iastore, 1) := by decide +kernel
theorem dX0_init_68 : decode cX0_init 68 = .ok (.iinc 1 1, 3) := by decide +kernel
theorem dX0_init_71 : decode cX0_init 71 = .ok (.goto (-24), 3) := by decide +kernel
theorem dX0_init_74 : decode cX0_init 74 = .ok (.return_, 1) := by decide +kernel
theorem dX1_init_0 : decode cX1_init 0 = .ok (.aload_n 0, 1) := by decide +kernel
theorem dX1_init_1 : decode cX1_init 1 = .ok (.invokespecial 3, 3) := by decide +kernel
theorem dX1_init_4 : decode cX1_init 4 = .ok (.aload_n 0, 1) := by decide +kernel
theorem dX1_init_5 : decode cX1_init 5 = .ok (.bipush 60, 2) := by decide +kernel
theorem dX1_init_7 : decode cX1_init 7 = .ok (.newarray .int, 2) := by decide +kernel
theorem dX1_init_9 : decode cX1_init 9 = .ok (.putfield 9, 3) := by decide +kernel
theorem dX1_init_12 : decode cX1_init 12 = .ok (.aload_n 0, 1) := by decide +kernel
theorem dX1_init_13 : decode cX1_init 13 = .ok (.bipush 60, 2) := by decide +kernel
theorem dX1_init_15 : decode cX1_init 15 = .ok (.newarray .int, 2) := by decide +kernel
theorem dX1_init_17 : decode cX1_init 17 = .ok (.putfield 15, 3) := by decide +kernel
theorem dX1_init_20 : decode cX1_init 20 = .ok (.aload_n 0, 1) := by decide +kernel
theorem dX1_init_21 : decode cX1_init 21 = .ok (.bipush 60, 2) := by decide +kernel
theorem dX1_init_23 : decode cX1_init 23 = .ok (.newarray .int, 2) := by decide +kernel
theorem dX1_init_25 : decode cX1_init 25 = .ok (.putfield 18, 3) := by decide +kernel
theorem dX1_init_28 : decode cX1_init 28 = .ok (.aload_n 0, 1) := by decide +kernel
theorem dX1_init_29 : decode cX1_init 29 = .ok (.lconst 0, 1) := by decide +kernel
theorem dX1_init_30 : decode cX1_init 30 = .ok (.putfield 21, 3) := by decide +kernel
theorem dX1_init_33 : decode cX1_init 33 = .ok (.aload_n 0, 1) := by decide +kernel
theorem dX1_init_34 : decode cX1_init 34 = .ok (.iconst 0, 1) := by decide +kernel
theorem dX1_init_35 : decode cX1_init 35 = .ok (.putfield 25, 3) := by decide +kernel
theorem dX1_init_38 : decode cX1_init 38 = .ok (.aload_n 0, 1) := by decide +kernel
theorem dX1_init_39 : decode cX1_init 39 = .ok (.iconst 0, 1) := by decide +kernel
theorem dX1_init_40 : decode cX1_init 40 = .ok (.putfield 29, 3) := by decide +kernel
theorem dX1_init_43 : decode cX1_init 43 = .ok (.return_, 1) := by decide +kernel
theorem dX2_init_0 : decode cX2_init 0 = .ok (.aload_n 0, 1) := by decide +kernel
theorem dX2_init_1 : decode cX2_init 1 = .ok (.invokespecial 3, 3) := by decide +kernel
theorem dX2_init_4 : decode cX2_init 4 = .ok (.aload_n 0, 1) := by decide +kernel
end
section
theorem dX2_init_5 : decode cX2_init 5 = .ok (.bipush 60, 2) := by decide +kernel
theorem dX2_init_7 : decode cX2_init 7 = .ok (.newarray .int, 2) := by decide +kernel
theorem dX2_init_9 : decode cX2_init 9 = .ok (.putfield 9, 3) := by decide +kernel
theorem dX2_init_12 : decode cX2_init 12 = .ok (.aload_n 0, 1) := by decide +kernel
theorem dX2_init_13 : decode cX2_init 13 = .ok (.bipush 60, 2) := by decide +kernel
theorem dX2_init_15 : decode cX2_init 15 = .ok (.newarray .int, 2) := by decide +kernel
theorem dX2_init_17 : decode cX2_init 17 = .ok (.putfield 15, 3) := by decide +kernel
theorem dX2_init_20 : decode cX2_init 20 = .ok (.aload_n 0, 1) := by decide +kernel
theorem dX2_init_21 : decode cX2_init 21 = .ok (.bipush 60, 2) := by decide +kernel
theorem dX2_init_23 : decode cX2_init 23 = .ok (.newarray .int, 2) := by decide +kernel
theorem dX2_init_25 : decode cX2_init 25 = .ok (.putfield 18, 3) := by decide +kernel
theorem dX2_init_28 : decode cX2_init 28 = .ok (.aload_n 0, 1) := by decide +kernel
theorem dX2_init_29 : decode cX2_init 29 = .ok (.bipush 60, 2) := by decide +kernel
theorem dX2_init_31 : decode cX2_init 31 = .ok (.newarray .int, 2) := by decide +kernel
theorem dX2_init_33 : decode cX2_init 33 = .ok (.putfield 21, 3) := by decide +kernel
theorem dX2_init_36 : decode cX2_init 36 = .ok (.aload_n 0, 1) := by decide +kernel
theorem dX2_init_37 : decode cX2_init 37 = .ok (.bipush 60, 2) := by decide +kernel
theorem dX2_init_39 : decode cX2_init 39 = .ok (.newarray .long, 2) := by decide +kernel
theorem dX2_init_41 : decode cX2_init 41 = .ok (.putfield 24, 3) := by decide +kernel
theorem dX2_init_44 : decode cX2_init 44 = .ok (.aload_n 0, 1) := by decide +kernel
theorem dX2_init_45 : decode cX2_init 45 = .ok (.iconst 0, 1) := by decide +kernel
theorem dX2_init_46 : decode cX2_init 46 = .ok (.putfield 28, 3) := by decide +kernel
theorem dX2_init_49 : decode cX2_init 49 = .ok (.return_, 1) := by decide +kernel
theorem dX3_init_0 : decode cX3_init 0 = .ok (.aload_n 0, 1) := by decide +kernel
theorem dX3_init_1 : decode cX3_init 1 = .ok (.invokespecial 3, 3) := by decide +kernel
theorem dX3_init_4 : decode cX3_init 4 = .ok (.aload_n 0, 1) := by decide +kernel
theorem dX3_init_5 : decode cX3_init 5 = .ok (.iconst 0, 1) := by decide +kernel
theorem dX3_init_6 : decode cX3_init 6 = .ok (.putfield 9, 3) := by decide +kernel
theorem dX3_init_9 : decode cX3_init 9 = .ok (.aload_n 0, 1) := by decide +kernel
theorem dX3_init_10 : decode cX3_init 10 = .ok (.iconst 0, 1) := by decide +kernel
theorem dX3_init_11 : decode cX3_init 11 = .ok (.putfield 15, 3) := by decide +kernel
theorem dX3_init_14 : decode cX3_init 14 = .ok (.aload_n 0, 1) := by decide +kernel
theorem dX3_init_15 : decode cX3_init 15 = .ok (.iconst 0, 1) := by decide +kernel
theorem dX3_init_16 : decode cX3_init 16 = .ok (.putfield 18, 3) := by decide +kernel
theorem dX3_init_19 : decode cX3_init 19 = .ok (.return_, 1) := by decide +kernel
theorem dX4_init_0 : decode cX4_init 0 = .ok (.aload_n 0, 1) := by decide +kernel
theorem dX4_init_1 : decode cX4_init 1 = .ok (.invokespecial 1, 3) := by decide +kernel
theorem dX4_init_4 : decode cX4_init 4 = .ok (.aload_n 0, 1) := by decide +kernel
theorem dX4_init_5 : decode cX4_init 5 = .ok (.new 7, 3) := by decide +kernel
theorem dX4_init_8 : decode cX4_init 8 = .ok (.dup, 1) := by decide +kernel
theorem dX4_init_9 : decode cX4_init 9 = .ok (.invokespecial 9, 3) := by decide +kernel
theorem dX4_init_12 : decode cX4_init 12 = .ok (.putfield 10, 3) := by decide +kernel
theorem dX4_init_15 : decode cX4_init 15 = .ok (.aload_n 0, 1) := by decide +kernel
theorem dX4_init_16 : decode cX4_init 16 = .ok (.iconst 3, 1) := by decide +kernel
theorem dX4_init_17 : decode cX4_init 17 = .ok (.anewarray 16, 3) := by decide +kernel
theorem dX4_init_20 : decode cX4_init 20 = .ok (.putfield 18, 3) := by decide +kernel
theorem dX4_init_23 : decode cX4_init 23 = .ok (.iconst 0, 1) := by decide +kernel
theorem dX4_init_24 : decode cX4_init 24 = .ok (.istore_n 1, 1) := by decide +kernel
theorem dX4_init_25 : decode cX4_init 25 = .ok (.iload_n 1, 1) := by decide +kernel
theorem dX4_init_26 : decode cX4_init 26 = .ok (.iconst 3, 1) := by decide +kernel
theorem dX4_init_27 : decode cX4_init 27 = .ok (.if_icmp .ge 22, 3) := by decide +kernel
theorem dX4_init_30 : decode cX4_init 30 = .ok (.aload_n 0, 1) := by decide +kernel
theorem dX4_init_31 : decode cX4_init 31 = .ok (.getfield 18, 3) := by decide +kernel
theorem dX4_init_34 : decode cX4_init 34 = .ok (.iload_n 1, 1) := by decide +kernel
theorem dX4_init_35 : decode cX4_init 35 = .ok (.new 16, 3) := by decide +kernel
theorem dX4_init_38 : decode cX4_init 38 = .ok (.dup, 1) := by decide +kernel
theorem dX4_init_39 : decode cX4_init 39 = .ok (.invokespecial 22, 3) := by decide +kernel
theorem dX4_init_42 : decode cX4_init 42 = .ok (.aastore, 1) := by decide +kernel
theorem dX4_init_43 : decode cX4_init 43 = .ok (.iinc 1 1, 3) := by decide +kernel
theorem dX4_init_46 : decode cX4_init 46 = .ok (.goto (-21), 3) := by decide +kernel
theorem dX4_init_49 : decode cX4_init 49 = .ok (.aload_n 0, 1) := by decide +kernel
theorem dX4_init_50 : decode cX4_init 50 = .ok (.new 23, 3) := by decide +kernel
theorem dX4_init_53 : decode cX4_init 53 = .ok (.dup, 1) := by decide +kernel
theorem dX4_init_54 : decode cX4_init 54 = .ok (.invokespecial 25, 3) := by decide +kernel
theorem dX4_init_57 : decode cX4_init 57 = .ok (.putfield 26, 3) := by decide +kernel
theorem dX4_init_60 : decode cX4_init 60 = .ok (.aload_n 0, 1) := by decide +kernel
theorem dX4_init_61 : decode cX4_init 61 = .ok (.new 30, 3) := by decide +kernel
theorem dX4_init_64 : decode cX4_init 64 = .ok (.dup, 1) := by decide +kernel
theorem dX4_init_65 : decode cX4_init 65 = .ok (.invokespecial 32, 3) := by decide +kernel
theorem dX4_init_68 : decode cX4_init 68 = .ok (.putfield 33, 3) := by decide +kernel
theorem dX4_init_71 : decode cX4_init 71 = .ok (.aload_n 0, 1) := by decide +kernel
theorem dX4_init_72 : decode cX4_init 72 = .ok (.iconst 4, 1) := by decide +kernel
theorem dX4_init_73 : decode cX4_init 73 = .ok (.newarray .int, 2) := by decide +kernel
theorem dX4_init_75 : decode cX4_init 75 = .ok (.putfield 37, 3) := by decide +kernel
theorem dX4_init_78 : decode cX4_init 78 = .ok (.aload_n 0, 1) := by decide +kernel
theorem dX4_init_79 : decode cX4_init 79 = .ok (.bipush 8, 2) := by decide +kernel
theorem dX4_init_81 : decode cX4_init 81 = .ok (.newarray .int, 2) := by decide +kernel
theorem dX4_init_83 : decode cX4_init 83 = .ok (.putfield 41, 3) := by decide +kernel
theorem dX4_init_86 : decode cX4_init 86 = .ok (.return_, 1) := by decide +kernel
theorem dX5_init_0 : decode cX5_init 0 = .ok (.aload_n 0, 1) := by decide +kernel
theorem dX5_init_1 : decode cX5_init 1 = .ok (.invokespecial 1, 3) := by decide +kernel
theorem dX5_init_4 : decode cX5_init 4 = .ok (.aload_n 0, 1) := by decide +kernel
theorem dX5_init_5 : decode cX5_init 5 = .ok (.bipush 60, 2) := by decide +kernel
theorem dX5_init_7 : decode cX5_init 7 = .ok (.newarray .int, 2) := by decide +kernel
theorem dX5_init_9 : decode cX5_init 9 = .ok (.putfield 7, 3) := by decide +kernel
theorem dX5_init_12 : decode cX5_init 12 = .ok (.aload_n 0, 1) := by decide +kernel
theorem dX5_init_13 : decode cX5_init 13 = .ok (.bipush 60, 2) := by decide +kernel
theorem dX5_init_15 : decode cX5_init 15 = .ok (.newarray .int, 2) := by decide +kernel
theorem dX5_init_17 : decode cX5_init 17 = .ok (.putfield 13, 3) := by decide +kernel
theorem dX5_init_20 : decode cX5_init 20 = .ok (.aload_n 0, 1) := by decide +kernel
theorem dX5_init_21 : decode cX5_init 21 = .ok (.bipush 60, 2) := by decide +kernel
theorem dX5_init_23 : decode cX5_init 23 = .ok (.newarray .int, 2) := by decide +kernel
theorem dX5_init_25 : decode cX5_init 25 = .ok (.putfield 16, 3) := by decide +kernel
theorem dX5_init_28 : decode cX5_init 28 = .ok (.aload_n 0, 1) := by decide +kernel
theorem dX5_init_29 : decode cX5_init 29 = .ok (.bipush 60, 2) := by decide +kernel
theorem dX5_init_31 : decode cX5_init 31 = .ok (.newarray .int, 2) := by decide +kernel
theorem dX5_init_33 : decode cX5_init 33 = .ok (.putfield 19, 3) := by decide +kernel
theorem dX5_init_36 : decode cX5_init 36 = .ok (.aload_n 0, 1) := by decide +kernel
theorem dX5_init_37 : decode cX5_init 37 = .ok (.iconst 3, 1) := by decide +kernel
theorem dX5_init_38 : decode cX5_init 38 = .ok (.newarray .long, 2) := by decide +kernel
theorem dX5_init_40 : decode cX5_init 40 = .ok (.putfield 22, 3) := by decide +kernel
theorem dX5_init_43 : decode cX5_init 43 = .ok (.aload_n 0, 1) := by decide +kernel
theorem dX5_init_44 : decode cX5_init 44 = .ok (.bipush 24, 2) := by decide +kernel
theorem dX5_init_46 : decode cX5_init 46 = .ok (.newarray .int, 2) := by decide +kernel
theorem dX5_init_48 : decode cX5_init 48 = .ok (.putfield 26, 3) := by decide +kernel
theorem dX5_init_51 : decode cX5_init 51 = .ok (.aload_n 0, 1) := by decide +kernel
theorem dX5_init_52 : decode cX5_init 52 = .ok (.iconst 3, 1) := by decide +kernel
theorem dX5_init_53 : decode cX5_init 53 = .ok (.newarray .boolean, 2) := by decide +kernel
theorem dX5_init_55 : decode cX5_init 55 = .ok (.putfield 29, 3) := by decide +kernel
theorem dX5_init_58 : decode cX5_init 58 = .ok (.aload_n 0, 1) := by decide +kernel
theorem dX5_init_59 : decode cX5_init 59 = .ok (.iconst 3, 1) := by decide +kernel
theorem dX5_init_60 : decode cX5_init 60 = .ok (.newarray .int, 2) := by decide +kernel
theorem dX5_init_62 : decode cX5_init 62 = .ok (.putfield 33, 3) := by decide +kernel
theorem dX5_init_65 : decode cX5_init 65 = .ok (.aload_n 0, 1) := by decide +kernel
theorem dX5_init_66 : decode cX5_init 66 = .ok (.iconst 3, 1) := by decide +kernel
theorem dX5_init_67 : decode cX5_init 67 = .ok (.newarray .int, 2) := by decide +kernel
theorem dX5_init_69 : decode cX5_init 69 = .ok (.putfield 36, 3) := by decide +kernel
theorem dX5_init_72 : decode cX5_init 72 = .ok (.aload_n 0, 1) := by decide +kernel
theorem dX5_init_73 : decode cX5_init 73 = .ok (.iconst 3, 1) := by decide +kernel
theorem dX5_init_74 : decode cX5_init 74 = .ok (.newarray .boolean, 2) := by decide +kernel
theorem dX5_init_76 : decode cX5_init 76 = .ok (.putfield 39, 3) := by decide +kernel
theorem dX5_init_79 : decode cX5_init 79 = .ok (.aload_n 0, 1) := by decide +kernel
theorem dX5_init_80 : decode cX5_init 80 = .ok (.bipush 12, 2) := by decide +kernel
theorem dX5_init_82 : decode cX5_init 82 = .ok (.newarray .int, 2) := by decide +kernel
theorem dX5_init_84 : decode cX5_init 84 = .ok (.putfield 42, 3) := by decide +kernel
theorem dX5_init_87 : decode cX5_init 87 = .ok (.aload_n 0, 1) := by decide +kernel
theorem dX5_init_88 : decode cX5_init 88 = .ok (.bipush 12, 2) := by decide +kernel
theorem dX5_init_90 : decode cX5_init 90 = .ok (.newarray .int, 2) := by decide +kernel
theorem dX5_init_92 : decode cX5_init 92 = .ok (.putfield 45, 3) := by decide +kernel
theorem dX5_init_95 : decode cX5_init 95 = .ok (.aload_n 0, 1) := by decide +kernel
theorem dX5_init_96 : decode cX5_init 96 = .ok (.iconst 4, 1) := by decide +kernel
theorem dX5_init_97 : decode cX5_init 97 = .ok (.newarray .int, 2) := by decide +kernel
theorem dX5_init_99 : decode cX5_init 99 = .ok (.putfield 48, 3) := by decide +kernel
theorem dX5_init_102 : decode cX5_init 102 = .ok (.aload_n 0, 1) := by decide +kernel
theorem dX5_init_103 : decode cX5_init 103 = .ok (.iconst 4, 1) := by decide +kernel
theorem dX5_init_104 : decode cX5_init 104 = .ok (.newarray .int, 2) := by decide +kernel
theorem dX5_init_106 : decode cX5_init 106 = .ok (.putfield 51, 3) := by decide +kernel
theorem dX5_init_109 : decode cX5_init 109 = .ok (.aload_n 0, 1) := by decide +kernel
theorem dX5_init_110 : decode cX5_init 110 = .ok (.iconst 4, 1) := by decide +kernel
theorem dX5_init_111 : decode cX5_init 111 = .ok (.newarray .int, 2) := by decide +kernel
theorem dX5_init_113 : decode cX5_init 113 = .ok (.putfield 54, 3) := by decide +kernel
theorem dX5_init_116 : decode cX5_init 116 = .ok (.aload_n 0, 1) := by decide +kernel
theorem dX5_init_117 : decode cX5_init 117 = .ok (.bipush 60, 2) := by decide +kernel
theorem dX5_init_119 : decode cX5_init 119 = .ok (.newarray .int, 2) := by decide +kernel
theorem dX5_init_121 : decode cX5_init 121 = .ok (.putfield 57, 3) := by decide +kernel
theorem dX5_init_124 : decode cX5_init 124 = .ok (.aload_n 0, 1) := by decide +kernel
theorem dX5_init_125 : decode cX5_init 125 = .ok (.bipush 60, 2) := by decide +kernel
theorem dX5_init_127 : decode cX5_init 127 = .ok (.newarray .int, 2) := by decide +kernel
theorem dX5_init_129 : decode cX5_init 129 = .ok (.putfield 60, 3) := by decide +kernel
theorem dX5_init_132 : decode cX5_init 132 = .ok (.aload_n 0, 1) := by decide +kernel
theorem dX5_init_133 : decode cX5_init 133 = .ok (.bipush 60, 2) := by decide +kernel
theorem dX5_init_135 : decode cX5_init 135 = .ok (.newarray .int, 2) := by decide +kernel
theorem dX5_init_137 : decode cX5_init 137 = .ok (.putfield 63, 3) := by decide +kernel
theorem dX5_init_140 : decode cX5_init 140 = .ok (.aload_n 0, 1) := by decide +kernel
theorem dX5_init_141 : decode cX5_init 141 = .ok (.bipush 60, 2) := by decide +kernel
theorem dX5_init_143 : decode cX5_init 143 = .ok (.newarray .int, 2) := by decide +kernel
theorem dX5_init_145 : decode cX5_init 145 = .ok (.putfield 66, 3) := by decide +kernel
theorem dX5_init_148 : decode cX5_init 148 = .ok (.return_, 1) := by decide +kernel
theorem dXL_law_0 : decode cXL_law 0 = .ok (.new 7, 3) := by decide +kernel
theorem dXL_law_3 : decode cXL_law 3 = .ok (.dup, 1) := by decide +kernel
theorem dXL_law_4 : decode cXL_law 4 = .ok (.invokespecial 9, 3) := by decide +kernel
theorem dXL_law_7 : decode cXL_law 7 = .ok (.astore_n 1, 1) := by decide +kernel
theorem dXL_law_8 : decode cXL_law 8 = .ok (.new 10, 3) := by decide +kernel
theorem dXL_law_11 : decode cXL_law 11 = .ok (.dup, 1) := by decide +kernel
theorem dXL_law_12 : decode cXL_law 12 = .ok (.invokespecial 12, 3) := by decide +kernel
theorem dXL_law_15 : decode cXL_law 15 = .ok (.astore_n 2, 1) := by decide +kernel
theorem dXL_law_16 : decode cXL_law 16 = .ok (.iconst 0, 1) := by decide +kernel
theorem dXL_law_17 : decode cXL_law 17 = .ok (.istore_n 3, 1) := by decide +kernel
theorem dXL_law_18 : decode cXL_law 18 = .ok (.iload_n 3, 1) := by decide +kernel
theorem dXL_law_19 : decode cXL_law 19 = .ok (.aload_n 0, 1) := by decide +kernel
theorem dXL_law_20 : decode cXL_law 20 = .ok (.arraylength, 1) := by decide +kernel
theorem dXL_law_21 : decode cXL_law 21 = .ok (.iconst 5, 1) := by decide +kernel
theorem dXL_law_22 : decode cXL_law 22 = .ok (.isub, 1) := by decide +kernel
theorem dXL_law_23 : decode cXL_law 23 = .ok (.if_icmp .gt 654, 3) := by decide +kernel
theorem dXL_law_26 : decode cXL_law 26 = .ok (.aload_n 0, 1) := by decide +kernel
theorem dXL_law_27 : decode cXL_law 27 = .ok (.iload_n 3, 1) := by decide +kernel
theorem dXL_law_28 : decode cXL_law 28 = .ok (.iaload, 1) := by decide +kernel
theorem dXL_law_29 : decode cXL_law 29 = .ok (.bipush 31, 2) := by decide +kernel
theorem dXL_law_31 : decode cXL_law 31 = .ok (.iand, 1) := by decide +kernel
theorem dXL_law_32 : decode cXL_law 32 = .ok (.tableswitch 639 0 18 #[92, 125, 168, 221, 264, 297, 330, 363, 386, 409, 432, 465, 498, 521, 544, 557, 580, 603, 616], 92) := by decide +kernel
theorem dXL_law_124 : decode cXL_law 124 = .ok (.aload_n 1, 1) := by decide +kernel
theorem dXL_law_125 : decode cXL_law 125 = .ok (.aload_n 0, 1) := by decide +kernel
theorem dXL_law_126 : decode cXL_law 126 = .ok (.iload_n 3, 1) := by decide +kernel
theorem dXL_law_127 : decode cXL_law 127 = .ok (.iconst 1, 1) := by decide +kernel
theorem dXL_law_128 : decode cXL_law 128 = .ok (.iadd, 1) := by decide +kernel
theorem dXL_law_129 : decode cXL_law 129 = .ok (.iaload, 1) := by decide +kernel
theorem dXL_law_130 : decode cXL_law 130 = .ok (.aload_n 0, 1) := by decide +kernel
theorem dXL_law_131 : decode cXL_law 131 = .ok (.iload_n 3, 1) := by decide +kernel
theorem dXL_law_132 : decode cXL_law 132 = .ok (.iconst 2, 1) := by decide +kernel
theorem dXL_law_133 : decode cXL_law 133 = .ok (.iadd, 1) := by decide +kernel
theorem dXL_law_134 : decode cXL_law 134 = .ok (.iaload, 1) := by decide +kernel
theorem dXL_law_135 : decode cXL_law 135 = .ok (.invokevirtual 13, 3) := by decide +kernel
theorem dXL_law_138 : decode cXL_law 138 = .ok (.aload_n 2, 1) := by decide +kernel
theorem dXL_law_139 : decode cXL_law 139 = .ok (.aload_n 0, 1) := by decide +kernel
theorem dXL_law_140 : decode cXL_law 140 = .ok (.iload_n 3, 1) := by decide +kernel
theorem dXL_law_141 : decode cXL_law 141 = .ok (.iconst 1, 1) := by decide +kernel
theorem dXL_law_142 : decode cXL_law 142 = .ok (.iadd, 1) := by decide +kernel
theorem dXL_law_143 : decode cXL_law 143 = .ok (.iaload, 1) := by decide +kernel
theorem dXL_law_144 : decode cXL_law 144 = .ok (.aload_n 0, 1) := by decide +kernel
theorem dXL_law_145 : decode cXL_law 145 = .ok (.iload_n 3, 1) := by decide +kernel
theorem dXL_law_146 : decode cXL_law 146 = .ok (.iconst 2, 1) := by decide +kernel
theorem dXL_law_147 : decode cXL_law 147 = .ok (.iadd, 1) := by decide +kernel
theorem dXL_law_148 : decode cXL_law 148 = .ok (.iaload, 1) := by decide +kernel
theorem dXL_law_149 : decode cXL_law 149 = .ok (.invokevirtual 17, 3) := by decide +kernel
theorem dXL_law_152 : decode cXL_law 152 = .ok (.if_icmp .eq 519, 3) := by decide +kernel
theorem dXL_law_155 : decode cXL_law 155 = .ok (.iconst 0, 1) := by decide +kernel
theorem dXL_law_156 : decode cXL_law 156 = .ok (.ireturn, 1) := by decide +kernel
theorem dXL_law_157 : decode cXL_law 157 = .ok (.aload_n 1, 1) := by decide +kernel
theorem dXL_law_158 : decode cXL_law 158 = .ok (.aload_n 0, 1) := by decide +kernel
theorem dXL_law_159 : decode cXL_law 159 = .ok (.iload_n 3, 1) := by decide +kernel
theorem dXL_law_160 : decode cXL_law 160 = .ok (.iconst 1, 1) := by decide +kernel
theorem dXL_law_161 : decode cXL_law 161 = .ok (.iadd, 1) := by decide +kernel
theorem dXL_law_162 : decode cXL_law 162 = .ok (.iaload, 1) := by decide +kernel
theorem dXL_law_163 : decode cXL_law 163 = .ok (.aload_n 0, 1) := by decide +kernel
theorem dXL_law_164 : decode cXL_law 164 = .ok (.iload_n 3, 1) := by decide +kernel
theorem dXL_law_165 : decode cXL_law 165 = .ok (.iconst 2, 1) := by decide +kernel
theorem dXL_law_166 : decode cXL_law 166 = .ok (.iadd, 1) := by decide +kernel
theorem dXL_law_167 : decode cXL_law 167 = .ok (.iaload, 1) := by decide +kernel
theorem dXL_law_168 : decode cXL_law 168 = .ok (.aload_n 0, 1) := by decide +kernel
theorem dXL_law_169 : decode cXL_law 169 = .ok (.iload_n 3, 1) := by decide +kernel
theorem dXL_law_170 : decode cXL_law 170 = .ok (.iconst 3, 1) := by decide +kernel
theorem dXL_law_171 : decode cXL_law 171 = .ok (.iadd, 1) := by decide +kernel
theorem dXL_law_172 : decode cXL_law 172 = .ok (.iaload, 1) := by decide +kernel
theorem dXL_law_173 : decode cXL_law 173 = .ok (.invokevirtual 18, 3) := by decide +kernel
theorem dXL_law_176 : decode cXL_law 176 = .ok (.aload_n 2, 1) := by decide +kernel
theorem dXL_law_177 : decode cXL_law 177 = .ok (.aload_n 0, 1) := by decide +kernel
theorem dXL_law_178 : decode cXL_law 178 = .ok (.iload_n 3, 1) := by decide +kernel
theorem dXL_law_179 : decode cXL_law 179 = .ok (.iconst 1, 1) := by decide +kernel
theorem dXL_law_180 : decode cXL_law 180 = .ok (.iadd, 1) := by decide +kernel
theorem dXL_law_181 : decode cXL_law 181 = .ok (.iaload, 1) := by decide +kernel
theorem dXL_law_182 : decode cXL_law 182 = .ok (.aload_n 0, 1) := by decide +kernel
theorem dXL_law_183 : decode cXL_law 183 = .ok (.iload_n 3, 1) := by decide +kernel
theorem dXL_law_184 : decode cXL_law 184 = .ok (.iconst 2, 1) := by decide +kernel
theorem dXL_law_185 : decode cXL_law 185 = .ok (.iadd, 1) := by decide +kernel
theorem dXL_law_186 : decode cXL_law 186 = .ok (.iaload, 1) := by decide +kernel
theorem dXL_law_187 : decode cXL_law 187 = .ok (.aload_n 0, 1) := by decide +kernel
theorem dXL_law_188 : decode cXL_law 188 = .ok (.iload_n 3, 1) := by decide +kernel
theorem dXL_law_189 : decode cXL_law 189 = .ok (.iconst 3, 1) := by decide +kernel
theorem dXL_law_190 : decode cXL_law 190 = .ok (.iadd, 1) := by decide +kernel
theorem dXL_law_191 : decode cXL_law 191 = .ok (.iaload, 1) := by decide +kernel
theorem dXL_law_192 : decode cXL_law 192 = .ok (.invokevirtual 22, 3) := by decide +kernel
theorem dXL_law_195 : decode cXL_law 195 = .ok (.if_icmp .eq 476, 3) := by decide +kernel
theorem dXL_law_198 : decode cXL_law 198 = .ok (.iconst 0, 1) := by decide +kernel
theorem dXL_law_199 : decode cXL_law 199 = .ok (.ireturn, 1) := by decide +kernel
theorem dXL_law_200 : decode cXL_law 200 = .ok (.aload_n 1, 1) := by decide +kernel
theorem dXL_law_201 : decode cXL_law 201 = .ok (.aload_n 0, 1) := by decide +kernel
theorem dXL_law_202 : decode cXL_law 202 = .ok (.iload_n 3, 1) := by decide +kernel
theorem dXL_law_203 : decode cXL_law 203 = .ok (.iconst 1, 1) := by decide +kernel
theorem dXL_law_204 : decode cXL_law 204 = .ok (.iadd, 1) := by decide +kernel
theorem dXL_law_205 : decode cXL_law 205 = .ok (.iaload, 1) := by decide +kernel
theorem dXL_law_206 : decode cXL_law 206 = .ok (.aload_n 0, 1) := by decide +kernel
theorem dXL_law_207 : decode cXL_law 207 = .ok (.iload_n 3, 1) := by decide +kernel
theorem dXL_law_208 : decode cXL_law 208 = .ok (.iconst 2, 1) := by decide +kernel
theorem dXL_law_209 : decode cXL_law 209 = .ok (.iadd, 1) := by decide +kernel
theorem dXL_law_210 : decode cXL_law 210 = .ok (.iaload, 1) := by decide +kernel
theorem dXL_law_211 : decode cXL_law 211 = .ok (.aload_n 0, 1) := by decide +kernel
theorem dXL_law_212 : decode cXL_law 212 = .ok (.iload_n 3, 1) := by decide +kernel
theorem dXL_law_213 : decode cXL_law 213 = .ok (.iconst 3, 1) := by decide +kernel
theorem dXL_law_214 : decode cXL_law 214 = .ok (.iadd, 1) := by decide +kernel
theorem dXL_law_215 : decode cXL_law 215 = .ok (.iaload, 1) := by decide +kernel
theorem dXL_law_216 : decode cXL_law 216 = .ok (.aload_n 0, 1) := by decide +kernel
theorem dXL_law_217 : decode cXL_law 217 = .ok (.iload_n 3, 1) := by decide +kernel
theorem dXL_law_218 : decode cXL_law 218 = .ok (.iconst 4, 1) := by decide +kernel
theorem dXL_law_219 : decode cXL_law 219 = .ok (.iadd, 1) := by decide +kernel
theorem dXL_law_220 : decode cXL_law 220 = .ok (.iaload, 1) := by decide +kernel
theorem dXL_law_221 : decode cXL_law 221 = .ok (.invokevirtual 23, 3) := by decide +kernel
theorem dXL_law_224 : decode cXL_law 224 = .ok (.aload_n 2, 1) := by decide +kernel
theorem dXL_law_225 : decode cXL_law 225 = .ok (.aload_n 0, 1) := by decide +kernel
theorem dXL_law_226 : decode cXL_law 226 = .ok (.iload_n 3, 1) := by decide +kernel
theorem dXL_law_227 : decode cXL_law 227 = .ok (.iconst 1, 1) := by decide +kernel
theorem dXL_law_228 : decode cXL_law 228 = .ok (.iadd, 1) := by decide +kernel
theorem dXL_law_229 : decode cXL_law 229 = .ok (.iaload, 1) := by decide +kernel
theorem dXL_law_230 : decode cXL_law 230 = .ok (.aload_n 0, 1) := by decide +kernel
theorem dXL_law_231 : decode cXL_law 231 = .ok (.iload_n 3, 1) := by decide +kernel
theorem dXL_law_232 : decode cXL_law 232 = .ok (.iconst 2, 1) := by decide +kernel
theorem dXL_law_233 : decode cXL_law 233 = .ok (.iadd, 1) := by decide +kernel
theorem dXL_law_234 : decode cXL_law 234 = .ok (.iaload, 1) := by decide +kernel
theorem dXL_law_235 : decode cXL_law 235 = .ok (.aload_n 0, 1) := by decide +kernel
theorem dXL_law_236 : decode cXL_law 236 = .ok (.iload_n 3, 1) := by decide +kernel
theorem dXL_law_237 : decode cXL_law 237 = .ok (.iconst 3, 1) := by decide +kernel
theorem dXL_law_238 : decode cXL_law 238 = .ok (.iadd, 1) := by decide +kernel
theorem dXL_law_239 : decode cXL_law 239 = .ok (.iaload, 1) := by decide +kernel
theorem dXL_law_240 : decode cXL_law 240 = .ok (.aload_n 0, 1) := by decide +kernel
theorem dXL_law_241 : decode cXL_law 241 = .ok (.iload_n 3, 1) := by decide +kernel
theorem dXL_law_242 : decode cXL_law 242 = .ok (.iconst 4, 1) := by decide +kernel
theorem dXL_law_243 : decode cXL_law 243 = .ok (.iadd, 1) := by decide +kernel
theorem dXL_law_244 : decode cXL_law 244 = .ok (.iaload, 1) := by decide +kernel
theorem dXL_law_245 : decode cXL_law 245 = .ok (.invokevirtual 27, 3) := by decide +kernel
theorem dXL_law_248 : decode cXL_law 248 = .ok (.if_icmp .eq 423, 3) := by decide +kernel
theorem dXL_law_251 : decode cXL_law 251 = .ok (.iconst 0, 1) := by decide +kernel
theorem dXL_law_252 : decode cXL_law 252 = .ok (.ireturn, 1) := by decide +kernel
theorem dXL_law_253 : decode cXL_law 253 = .ok (.aload_n 1, 1) := by decide +kernel
theorem dXL_law_254 : decode cXL_law 254 = .ok (.aload_n 0, 1) := by decide +kernel
theorem dXL_law_255 : decode cXL_law 255 = .ok (.iload_n 3, 1) := by decide +kernel
theorem dXL_law_256 : decode cXL_law 256 = .ok (.iconst 1, 1) := by decide +kernel
theorem dXL_law_257 : decode cXL_law 257 = .ok (.iadd, 1) := by decide +kernel
theorem dXL_law_258 : decode cXL_law 258 = .ok (.iaload, 1) := by decide +kernel
theorem dXL_law_259 : decode cXL_law 259 = .ok (.aload_n 0, 1) := by decide +kernel
theorem dXL_law_260 : decode cXL_law 260 = .ok (.iload_n 3, 1) := by decide +kernel
theorem dXL_law_261 : decode cXL_law 261 = .ok (.iconst 2, 1) := by decide +kernel
theorem dXL_law_262 : decode cXL_law 262 = .ok (.iadd, 1) := by decide +kernel
theorem dXL_law_263 : decode cXL_law 263 = .ok (.iaload, 1) := by decide +kernel
theorem dXL_law_264 : decode cXL_law 264 = .ok (.aload_n 0, 1) := by decide +kernel
theorem dXL_law_265 : decode cXL_law 265 = .ok (.iload_n 3, 1) := by decide +kernel
theorem dXL_law_266 : decode cXL_law 266 = .ok (.iconst 3, 1) := by decide +kernel
theorem dXL_law_267 : decode cXL_law 267 = .ok (.iadd, 1) := by decide +kernel
theorem dXL_law_268 : decode cXL_law 268 = .ok (.iaload, 1) := by decide +kernel
theorem dXL_law_269 : decode cXL_law 269 = .ok (.invokevirtual 28, 3) := by decide +kernel
theorem dXL_law_272 : decode cXL_law 272 = .ok (.aload_n 2, 1) := by decide +kernel
theorem dXL_law_273 : decode cXL_law 273 = .ok (.aload_n 0, 1) := by decide +kernel
theorem dXL_law_274 : decode cXL_law 274 = .ok (.iload_n 3, 1) := by decide +kernel
theorem dXL_law_275 : decode cXL_law 275 = .ok (.iconst 1, 1) := by decide +kernel
theorem dXL_law_276 : decode cXL_law 276 = .ok (.iadd, 1) := by decide +kernel
theorem dXL_law_277 : decode cXL_law 277 = .ok (.iaload, 1) := by decide +kernel
theorem dXL_law_278 : decode cXL_law 278 = .ok (.aload_n 0, 1) := by decide +kernel
theorem dXL_law_279 : decode cXL_law 279 = .ok (.iload_n 3, 1) := by decide +kernel
theorem dXL_law_280 : decode cXL_law 280 = .ok (.iconst 2, 1) := by decide +kernel
theorem dXL_law_281 : decode cXL_law 281 = .ok (.iadd, 1) := by decide +kernel
theorem dXL_law_282 : decode cXL_law 282 = .ok (.iaload, 1) := by decide +kernel
theorem dXL_law_283 : decode cXL_law 283 = .ok (.aload_n 0, 1) := by decide +kernel
theorem dXL_law_284 : decode cXL_law 284 = .ok (.iload_n 3, 1) := by decide +kernel
theorem dXL_law_285 : decode cXL_law 285 = .ok (.iconst 3, 1) := by decide +kernel
theorem dXL_law_286 : decode cXL_law 286 = .ok (.iadd, 1) := by decide +kernel
theorem dXL_law_287 : decode cXL_law 287 = .ok (.iaload, 1) := by decide +kernel
theorem dXL_law_288 : decode cXL_law 288 = .ok (.invokevirtual 31, 3) := by decide +kernel
theorem dXL_law_291 : decode cXL_law 291 = .ok (.if_icmp .eq 380, 3) := by decide +kernel
theorem dXL_law_294 : decode cXL_law 294 = .ok (.iconst 0, 1) := by decide +kernel
theorem dXL_law_295 : decode cXL_law 295 = .ok (.ireturn, 1) := by decide +kernel
theorem dXL_law_296 : decode cXL_law 296 = .ok (.aload_n 1, 1) := by decide +kernel
theorem dXL_law_297 : decode cXL_law 297 = .ok (.aload_n 0, 1) := by decide +kernel
theorem dXL_law_298 : decode cXL_law 298 = .ok (.iload_n 3, 1) := by decide +kernel
theorem dXL_law_299 : decode cXL_law 299 = .ok (.iconst 1, 1) := by decide +kernel
theorem dXL_law_300 : decode cXL_law 300 = .ok (.iadd, 1) := by decide +kernel
theorem dXL_law_301 : decode cXL_law 301 = .ok (.iaload, 1) := by decide +kernel
theorem dXL_law_302 : decode cXL_law 302 = .ok (.aload_n 0, 1) := by decide +kernel
theorem dXL_law_303 : decode cXL_law 303 = .ok (.iload_n 3, 1) := by decide +kernel
theorem dXL_law_304 : decode cXL_law 304 = .ok (.iconst 2, 1) := by decide +kernel
theorem dXL_law_305 : decode cXL_law 305 = .ok (.iadd, 1) := by decide +kernel
theorem dXL_law_306 : decode cXL_law 306 = .ok (.iaload, 1) := by decide +kernel
theorem dXL_law_307 : decode cXL_law 307 = .ok (.invokevirtual 32, 3) := by decide +kernel
theorem dXL_law_310 : decode cXL_law 310 = .ok (.aload_n 2, 1) := by decide +kernel
theorem dXL_law_311 : decode cXL_law 311 = .ok (.aload_n 0, 1) := by decide +kernel
theorem dXL_law_312 : decode cXL_law 312 = .ok (.iload_n 3, 1) := by decide +kernel
theorem dXL_law_313 : decode cXL_law 313 = .ok (.iconst 1, 1) := by decide +kernel
theorem dXL_law_314 : decode cXL_law 314 = .ok (.iadd, 1) := by decide +kernel
theorem dXL_law_315 : decode cXL_law 315 = .ok (.iaload, 1) := by decide +kernel
theorem dXL_law_316 : decode cXL_law 316 = .ok (.aload_n 0, 1) := by decide +kernel
theorem dXL_law_317 : decode cXL_law 317 = .ok (.iload_n 3, 1) := by decide +kernel
theorem dXL_law_318 : decode cXL_law 318 = .ok (.iconst 2, 1) := by decide +kernel
theorem dXL_law_319 : decode cXL_law 319 = .ok (.iadd, 1) := by decide +kernel
theorem dXL_law_320 : decode cXL_law 320 = .ok (.iaload, 1) := by decide +kernel
theorem dXL_law_321 : decode cXL_law 321 = .ok (.invokevirtual 35, 3) := by decide +kernel
theorem dXL_law_324 : decode cXL_law 324 = .ok (.if_icmp .eq 347, 3) := by decide +kernel
theorem dXL_law_327 : decode cXL_law 327 = .ok (.iconst 0, 1) := by decide +kernel
theorem dXL_law_328 : decode cXL_law 328 = .ok (.ireturn, 1) := by decide +kernel
theorem dXL_law_329 : decode cXL_law 329 = .ok (.aload_n 1, 1) := by decide +kernel
theorem dXL_law_330 : decode cXL_law 330 = .ok (.aload_n 0, 1) := by decide +kernel
theorem dXL_law_331 : decode cXL_law 331 = .ok (.iload_n 3, 1) := by decide +kernel
theorem dXL_law_332 : decode cXL_law 332 = .ok (.iconst 1, 1) := by decide +kernel
theorem dXL_law_333 : decode cXL_law 333 = .ok (.iadd, 1) := by decide +kernel
theorem dXL_law_334 : decode cXL_law 334 = .ok (.iaload, 1) := by decide +kernel
theorem dXL_law_335 : decode cXL_law 335 = .ok (.aload_n 0, 1) := by decide +kernel
theorem dXL_law_336 : decode cXL_law 336 = .ok (.iload_n 3, 1) := by decide +kernel
theorem dXL_law_337 : decode cXL_law 337 = .ok (.iconst 2, 1) := by decide +kernel
theorem dXL_law_338 : decode cXL_law 338 = .ok (.iadd, 1) := by decide +kernel
theorem dXL_law_339 : decode cXL_law 339 = .ok (.iaload, 1) := by decide +kernel
theorem dXL_law_340 : decode cXL_law 340 = .ok (.invokevirtual 36, 3) := by decide +kernel
theorem dXL_law_343 : decode cXL_law 343 = .ok (.aload_n 2, 1) := by decide +kernel
theorem dXL_law_344 : decode cXL_law 344 = .ok (.aload_n 0, 1) := by decide +kernel
theorem dXL_law_345 : decode cXL_law 345 = .ok (.iload_n 3, 1) := by decide +kernel
theorem dXL_law_346 : decode cXL_law 346 = .ok (.iconst 1, 1) := by decide +kernel
theorem dXL_law_347 : decode cXL_law 347 = .ok (.iadd, 1) := by decide +kernel
theorem dXL_law_348 : decode cXL_law 348 = .ok (.iaload, 1) := by decide +kernel
theorem dXL_law_349 : decode cXL_law 349 = .ok (.aload_n 0, 1) := by decide +kernel
theorem dXL_law_350 : decode cXL_law 350 = .ok (.iload_n 3, 1) := by decide +kernel
theorem dXL_law_351 : decode cXL_law 351 = .ok (.iconst 2, 1) := by decide +kernel
theorem dXL_law_352 : decode cXL_law 352 = .ok (.iadd, 1) := by decide +kernel
theorem dXL_law_353 : decode cXL_law 353 = .ok (.iaload, 1) := by decide +kernel
theorem dXL_law_354 : decode cXL_law 354 = .ok (.invokevirtual 39, 3) := by decide +kernel
theorem dXL_law_357 : decode cXL_law 357 = .ok (.if_icmp .eq 314, 3) := by decide +kernel
theorem dXL_law_360 : decode cXL_law 360 = .ok (.iconst 0, 1) := by decide +kernel
theorem dXL_law_361 : decode cXL_law 361 = .ok (.ireturn, 1) := by decide +kernel
theorem dXL_law_362 : decode cXL_law 362 = .ok (.aload_n 1, 1) := by decide +kernel
theorem dXL_law_363 : decode cXL_law 363 = .ok (.aload_n 0, 1) := by decide +kernel
theorem dXL_law_364 : decode cXL_law 364 = .ok (.iload_n 3, 1) := by decide +kernel
theorem dXL_law_365 : decode cXL_law 365 = .ok (.iconst 1, 1) := by decide +kernel
theorem dXL_law_366 : decode cXL_law 366 = .ok (.iadd, 1) := by decide +kernel
theorem dXL_law_367 : decode cXL_law 367 = .ok (.iaload, 1) := by decide +kernel
theorem dXL_law_368 : decode cXL_law 368 = .ok (.aload_n 0, 1) := by decide +kernel
theorem dXL_law_369 : decode cXL_law 369 = .ok (.iload_n 3, 1) := by decide +kernel
theorem dXL_law_370 : decode cXL_law 370 = .ok (.iconst 2, 1) := by decide +kernel
theorem dXL_law_371 : decode cXL_law 371 = .ok (.iadd, 1) := by decide +kernel
theorem dXL_law_372 : decode cXL_law 372 = .ok (.iaload, 1) := by decide +kernel
theorem dXL_law_373 : decode cXL_law 373 = .ok (.invokevirtual 40, 3) := by decide +kernel
theorem dXL_law_376 : decode cXL_law 376 = .ok (.aload_n 2, 1) := by decide +kernel
theorem dXL_law_377 : decode cXL_law 377 = .ok (.aload_n 0, 1) := by decide +kernel
theorem dXL_law_378 : decode cXL_law 378 = .ok (.iload_n 3, 1) := by decide +kernel
theorem dXL_law_379 : decode cXL_law 379 = .ok (.iconst 1, 1) := by decide +kernel
theorem dXL_law_380 : decode cXL_law 380 = .ok (.iadd, 1) := by decide +kernel
theorem dXL_law_381 : decode cXL_law 381 = .ok (.iaload, 1) := by decide +kernel
theorem dXL_law_382 : decode cXL_law 382 = .ok (.aload_n 0, 1) := by decide +kernel
theorem dXL_law_383 : decode cXL_law 383 = .ok (.iload_n 3, 1) := by decide +kernel
theorem dXL_law_384 : decode cXL_law 384 = .ok (.iconst 2, 1) := by decide +kernel
theorem dXL_law_385 : decode cXL_law 385 = .ok (.iadd, 1) := by decide +kernel
theorem dXL_law_386 : decode cXL_law 386 = .ok (.iaload, 1) := by decide +kernel
theorem dXL_law_387 : decode cXL_law 387 = .ok (.invokevirtual 44, 3) := by decide +kernel
theorem dXL_law_390 : decode cXL_law 390 = .ok (.if_icmp .eq 281, 3) := by decide +kernel
theorem dXL_law_393 : decode cXL_law 393 = .ok (.iconst 0, 1) := by decide +kernel
theorem dXL_law_394 : decode cXL_law 394 = .ok (.ireturn, 1) := by decide +kernel
theorem dXL_law_395 : decode cXL_law 395 = .ok (.aload_n 1, 1) := by decide +kernel
theorem dXL_law_396 : decode cXL_law 396 = .ok (.aload_n 0, 1) := by decide +kernel
theorem dXL_law_397 : decode cXL_law 397 = .ok (.iload_n 3, 1) := by decide +kernel
theorem dXL_law_398 : decode cXL_law 398 = .ok (.iconst 1, 1) := by decide +kernel
theorem dXL_law_399 : decode cXL_law 399 = .ok (.iadd, 1) := by decide +kernel
theorem dXL_law_400 : decode cXL_law 400 = .ok (.iaload, 1) := by decide +kernel
theorem dXL_law_401 : decode cXL_law 401 = .ok (.invokevirtual 45, 3) := by decide +kernel
theorem dXL_law_404 : decode cXL_law 404 = .ok (.aload_n 2, 1) := by decide +kernel
theorem dXL_law_405 : decode cXL_law 405 = .ok (.aload_n 0, 1) := by decide +kernel
theorem dXL_law_406 : decode cXL_law 406 = .ok (.iload_n 3, 1) := by decide +kernel
theorem dXL_law_407 : decode cXL_law 407 = .ok (.iconst 1, 1) := by decide +kernel
theorem dXL_law_408 : decode cXL_law 408 = .ok (.iadd, 1) := by decide +kernel
theorem dXL_law_409 : decode cXL_law 409 = .ok (.iaload, 1) := by decide +kernel
theorem dXL_law_410 : decode cXL_law 410 = .ok (.invokevirtual 49, 3) := by decide +kernel
theorem dXL_law_413 : decode cXL_law 413 = .ok (.if_icmp .eq 258, 3) := by decide +kernel
theorem dXL_law_416 : decode cXL_law 416 = .ok (.iconst 0, 1) := by decide +kernel
theorem dXL_law_417 : decode cXL_law 417 = .ok (.ireturn, 1) := by decide +kernel
theorem dXL_law_418 : decode cXL_law 418 = .ok (.aload_n 1, 1) := by decide +kernel
theorem dXL_law_419 : decode cXL_law 419 = .ok (.aload_n 0, 1) := by decide +kernel
theorem dXL_law_420 : decode cXL_law 420 = .ok (.iload_n 3, 1) := by decide +kernel
theorem dXL_law_421 : decode cXL_law 421 = .ok (.iconst 1, 1) := by decide +kernel
theorem dXL_law_422 : decode cXL_law 422 = .ok (.iadd, 1) := by decide +kernel
theorem dXL_law_423 : decode cXL_law 423 = .ok (.iaload, 1) := by decide +kernel
theorem dXL_law_424 : decode cXL_law 424 = .ok (.invokevirtual 50, 3) := by decide +kernel
theorem dXL_law_427 : decode cXL_law 427 = .ok (.aload_n 2, 1) := by decide +kernel
theorem dXL_law_428 : decode cXL_law 428 = .ok (.aload_n 0, 1) := by decide +kernel
theorem dXL_law_429 : decode cXL_law 429 = .ok (.iload_n 3, 1) := by decide +kernel
theorem dXL_law_430 : decode cXL_law 430 = .ok (.iconst 1, 1) := by decide +kernel
theorem dXL_law_431 : decode cXL_law 431 = .ok (.iadd, 1) := by decide +kernel
theorem dXL_law_432 : decode cXL_law 432 = .ok (.iaload, 1) := by decide +kernel
theorem dXL_law_433 : decode cXL_law 433 = .ok (.invokevirtual 53, 3) := by decide +kernel
theorem dXL_law_436 : decode cXL_law 436 = .ok (.if_icmp .eq 235, 3) := by decide +kernel
theorem dXL_law_439 : decode cXL_law 439 = .ok (.iconst 0, 1) := by decide +kernel
theorem dXL_law_440 : decode cXL_law 440 = .ok (.ireturn, 1) := by decide +kernel
theorem dXL_law_441 : decode cXL_law 441 = .ok (.aload_n 1, 1) := by decide +kernel
theorem dXL_law_442 : decode cXL_law 442 = .ok (.aload_n 0, 1) := by decide +kernel
theorem dXL_law_443 : decode cXL_law 443 = .ok (.iload_n 3, 1) := by decide +kernel
theorem dXL_law_444 : decode cXL_law 444 = .ok (.iconst 1, 1) := by decide +kernel
theorem dXL_law_445 : decode cXL_law 445 = .ok (.iadd, 1) := by decide +kernel
theorem dXL_law_446 : decode cXL_law 446 = .ok (.iaload, 1) := by decide +kernel
theorem dXL_law_447 : decode cXL_law 447 = .ok (.invokevirtual 54, 3) := by decide +kernel
end
section
theorem dXL_law_450 : decode cXL_law 450 = .ok (.aload_n 2, 1) := by decide +kernel
theorem dXL_law_451 : decode cXL_law 451 = .ok (.aload_n 0, 1) := by decide +kernel
theorem dXL_law_452 : decode cXL_law 452 = .ok (.iload_n 3, 1) := by decide +kernel
theorem dXL_law_453 : decode cXL_law 453 = .ok (.iconst 1, 1) := by decide +kernel
theorem dXL_law_454 : decode cXL_law 454 = .ok (.iadd, 1) := by decide +kernel
theorem dXL_law_455 : decode cXL_law 455 = .ok (.iaload, 1) := by decide +kernel
theorem dXL_law_456 : decode cXL_law 456 = .ok (.invokevirtual 58, 3) := by decide +kernel
theorem dXL_law_459 : decode cXL_law 459 = .ok (.if_icmp .eq 212, 3) := by decide +kernel
theorem dXL_law_462 : decode cXL_law 462 = .ok (.iconst 0, 1) := by decide +kernel
theorem dXL_law_463 : decode cXL_law 463 = .ok (.ireturn, 1) := by decide +kernel
theorem dXL_law_464 : decode cXL_law 464 = .ok (.aload_n 1, 1) := by decide +kernel
theorem dXL_law_465 : decode cXL_law 465 = .ok (.aload_n 0, 1) := by decide +kernel
theorem dXL_law_466 : decode cXL_law 466 = .ok (.iload_n 3, 1) := by decide +kernel
theorem dXL_law_467 : decode cXL_law 467 = .ok (.iconst 1, 1) := by decide +kernel
theorem dXL_law_468 : decode cXL_law 468 = .ok (.iadd, 1) := by decide +kernel
theorem dXL_law_469 : decode cXL_law 469 = .ok (.iaload, 1) := by decide +kernel
theorem dXL_law_470 : decode cXL_law 470 = .ok (.aload_n 0, 1) := by decide +kernel
theorem dXL_law_471 : decode cXL_law 471 = .ok (.iload_n 3, 1) := by decide +kernel
theorem dXL_law_472 : decode cXL_law 472 = .ok (.iconst 2, 1) := by decide +kernel
theorem dXL_law_473 : decode cXL_law 473 = .ok (.iadd, 1) := by decide +kernel
theorem dXL_law_474 : decode cXL_law 474 = .ok (.iaload, 1) := by decide +kernel
theorem dXL_law_475 : decode cXL_law 475 = .ok (.invokevirtual 59, 3) := by decide +kernel
theorem dXL_law_478 : decode cXL_law 478 = .ok (.aload_n 2, 1) := by decide +kernel
theorem dXL_law_479 : decode cXL_law 479 = .ok (.aload_n 0, 1) := by decide +kernel
theorem dXL_law_480 : decode cXL_law 480 = .ok (.iload_n 3, 1) := by decide +kernel
theorem dXL_law_481 : decode cXL_law 481 = .ok (.iconst 1, 1) := by decide +kernel
theorem dXL_law_482 : decode cXL_law 482 = .ok (.iadd, 1) := by decide +kernel
theorem dXL_law_483 : decode cXL_law 483 = .ok (.iaload, 1) := by decide +kernel
theorem dXL_law_484 : decode cXL_law 484 = .ok (.aload_n 0, 1) := by decide +kernel
theorem dXL_law_485 : decode cXL_law 485 = .ok (.iload_n 3, 1) := by decide +kernel
theorem dXL_law_486 : decode cXL_law 486 = .ok (.iconst 2, 1) := by decide +kernel
theorem dXL_law_487 : decode cXL_law 487 = .ok (.iadd, 1) := by decide +kernel
theorem dXL_law_488 : decode cXL_law 488 = .ok (.iaload, 1) := by decide +kernel
theorem dXL_law_489 : decode cXL_law 489 = .ok (.invokevirtual 62, 3) := by decide +kernel
theorem dXL_law_492 : decode cXL_law 492 = .ok (.if_icmp .eq 179, 3) := by decide +kernel
theorem dXL_law_495 : decode cXL_law 495 = .ok (.iconst 0, 1) := by decide +kernel
theorem dXL_law_496 : decode cXL_law 496 = .ok (.ireturn, 1) := by decide +kernel
theorem dXL_law_497 : decode cXL_law 497 = .ok (.aload_n 1, 1) := by decide +kernel
theorem dXL_law_498 : decode cXL_law 498 = .ok (.aload_n 0, 1) := by decide +kernel
theorem dXL_law_499 : decode cXL_law 499 = .ok (.iload_n 3, 1) := by decide +kernel
theorem dXL_law_500 : decode cXL_law 500 = .ok (.iconst 1, 1) := by decide +kernel
theorem dXL_law_501 : decode cXL_law 501 = .ok (.iadd, 1) := by decide +kernel
theorem dXL_law_502 : decode cXL_law 502 = .ok (.iaload, 1) := by decide +kernel
theorem dXL_law_503 : decode cXL_law 503 = .ok (.aload_n 0, 1) := by decide +kernel
theorem dXL_law_504 : decode cXL_law 504 = .ok (.iload_n 3, 1) := by decide +kernel
theorem dXL_law_505 : decode cXL_law 505 = .ok (.iconst 2, 1) := by decide +kernel
theorem dXL_law_506 : decode cXL_law 506 = .ok (.iadd, 1) := by decide +kernel
theorem dXL_law_507 : decode cXL_law 507 = .ok (.iaload, 1) := by decide +kernel
theorem dXL_law_508 : decode cXL_law 508 = .ok (.invokevirtual 63, 3) := by decide +kernel
theorem dXL_law_511 : decode cXL_law 511 = .ok (.aload_n 2, 1) := by decide +kernel
theorem dXL_law_512 : decode cXL_law 512 = .ok (.aload_n 0, 1) := by decide +kernel
theorem dXL_law_513 : decode cXL_law 513 = .ok (.iload_n 3, 1) := by decide +kernel
theorem dXL_law_514 : decode cXL_law 514 = .ok (.iconst 1, 1) := by decide +kernel
theorem dXL_law_515 : decode cXL_law 515 = .ok (.iadd, 1) := by decide +kernel
theorem dXL_law_516 : decode cXL_law 516 = .ok (.iaload, 1) := by decide +kernel
theorem dXL_law_517 : decode cXL_law 517 = .ok (.aload_n 0, 1) := by decide +kernel
theorem dXL_law_518 : decode cXL_law 518 = .ok (.iload_n 3, 1) := by decide +kernel
theorem dXL_law_519 : decode cXL_law 519 = .ok (.iconst 2, 1) := by decide +kernel
theorem dXL_law_520 : decode cXL_law 520 = .ok (.iadd, 1) := by decide +kernel
theorem dXL_law_521 : decode cXL_law 521 = .ok (.iaload, 1) := by decide +kernel
theorem dXL_law_522 : decode cXL_law 522 = .ok (.invokevirtual 66, 3) := by decide +kernel
theorem dXL_law_525 : decode cXL_law 525 = .ok (.if_icmp .eq 146, 3) := by decide +kernel
theorem dXL_law_528 : decode cXL_law 528 = .ok (.iconst 0, 1) := by decide +kernel
theorem dXL_law_529 : decode cXL_law 529 = .ok (.ireturn, 1) := by decide +kernel
theorem dXL_law_530 : decode cXL_law 530 = .ok (.aload_n 1, 1) := by decide +kernel
theorem dXL_law_531 : decode cXL_law 531 = .ok (.aload_n 0, 1) := by decide +kernel
theorem dXL_law_532 : decode cXL_law 532 = .ok (.iload_n 3, 1) := by decide +kernel
theorem dXL_law_533 : decode cXL_law 533 = .ok (.iconst 1, 1) := by decide +kernel
theorem dXL_law_534 : decode cXL_law 534 = .ok (.iadd, 1) := by decide +kernel
theorem dXL_law_535 : decode cXL_law 535 = .ok (.iaload, 1) := by decide +kernel
theorem dXL_law_536 : decode cXL_law 536 = .ok (.invokevirtual 67, 3) := by decide +kernel
theorem dXL_law_539 : decode cXL_law 539 = .ok (.aload_n 2, 1) := by decide +kernel
theorem dXL_law_540 : decode cXL_law 540 = .ok (.aload_n 0, 1) := by decide +kernel
theorem dXL_law_541 : decode cXL_law 541 = .ok (.iload_n 3, 1) := by decide +kernel
theorem dXL_law_542 : decode cXL_law 542 = .ok (.iconst 1, 1) := by decide +kernel
theorem dXL_law_543 : decode cXL_law 543 = .ok (.iadd, 1) := by decide +kernel
theorem dXL_law_544 : decode cXL_law 544 = .ok (.iaload, 1) := by decide +kernel
theorem dXL_law_545 : decode cXL_law 545 = .ok (.invokevirtual 70, 3) := by decide +kernel
theorem dXL_law_548 : decode cXL_law 548 = .ok (.if_icmp .eq 123, 3) := by decide +kernel
theorem dXL_law_551 : decode cXL_law 551 = .ok (.iconst 0, 1) := by decide +kernel
theorem dXL_law_552 : decode cXL_law 552 = .ok (.ireturn, 1) := by decide +kernel
theorem dXL_law_553 : decode cXL_law 553 = .ok (.aload_n 1, 1) := by decide +kernel
theorem dXL_law_554 : decode cXL_law 554 = .ok (.aload_n 0, 1) := by decide +kernel
theorem dXL_law_555 : decode cXL_law 555 = .ok (.iload_n 3, 1) := by decide +kernel
theorem dXL_law_556 : decode cXL_law 556 = .ok (.iconst 1, 1) := by decide +kernel
theorem dXL_law_557 : decode cXL_law 557 = .ok (.iadd, 1) := by decide +kernel
theorem dXL_law_558 : decode cXL_law 558 = .ok (.iaload, 1) := by decide +kernel
theorem dXL_law_559 : decode cXL_law 559 = .ok (.invokevirtual 71, 3) := by decide +kernel
theorem dXL_law_562 : decode cXL_law 562 = .ok (.aload_n 2, 1) := by decide +kernel
theorem dXL_law_563 : decode cXL_law 563 = .ok (.aload_n 0, 1) := by decide +kernel
theorem dXL_law_564 : decode cXL_law 564 = .ok (.iload_n 3, 1) := by decide +kernel
theorem dXL_law_565 : decode cXL_law 565 = .ok (.iconst 1, 1) := by decide +kernel
theorem dXL_law_566 : decode cXL_law 566 = .ok (.iadd, 1) := by decide +kernel
theorem dXL_law_567 : decode cXL_law 567 = .ok (.iaload, 1) := by decide +kernel
theorem dXL_law_568 : decode cXL_law 568 = .ok (.invokevirtual 74, 3) := by decide +kernel
theorem dXL_law_571 : decode cXL_law 571 = .ok (.if_icmp .eq 100, 3) := by decide +kernel
theorem dXL_law_574 : decode cXL_law 574 = .ok (.iconst 0, 1) := by decide +kernel
theorem dXL_law_575 : decode cXL_law 575 = .ok (.ireturn, 1) := by decide +kernel
theorem dXL_law_576 : decode cXL_law 576 = .ok (.aload_n 1, 1) := by decide +kernel
theorem dXL_law_577 : decode cXL_law 577 = .ok (.invokevirtual 75, 3) := by decide +kernel
theorem dXL_law_580 : decode cXL_law 580 = .ok (.aload_n 2, 1) := by decide +kernel
theorem dXL_law_581 : decode cXL_law 581 = .ok (.invokevirtual 79, 3) := by decide +kernel
theorem dXL_law_584 : decode cXL_law 584 = .ok (.if_icmp .eq 87, 3) := by decide +kernel
theorem dXL_law_587 : decode cXL_law 587 = .ok (.iconst 0, 1) := by decide +kernel
theorem dXL_law_588 : decode cXL_law 588 = .ok (.ireturn, 1) := by decide +kernel
theorem dXL_law_589 : decode cXL_law 589 = .ok (.aload_n 1, 1) := by decide +kernel
theorem dXL_law_590 : decode cXL_law 590 = .ok (.aload_n 0, 1) := by decide +kernel
theorem dXL_law_591 : decode cXL_law 591 = .ok (.iload_n 3, 1) := by decide +kernel
theorem dXL_law_592 : decode cXL_law 592 = .ok (.iconst 1, 1) := by decide +kernel
theorem dXL_law_593 : decode cXL_law 593 = .ok (.iadd, 1) := by decide +kernel
theorem dXL_law_594 : decode cXL_law 594 = .ok (.iaload, 1) := by decide +kernel
theorem dXL_law_595 : decode cXL_law 595 = .ok (.invokevirtual 80, 3) := by decide +kernel
theorem dXL_law_598 : decode cXL_law 598 = .ok (.aload_n 2, 1) := by decide +kernel
theorem dXL_law_599 : decode cXL_law 599 = .ok (.aload_n 0, 1) := by decide +kernel
theorem dXL_law_600 : decode cXL_law 600 = .ok (.iload_n 3, 1) := by decide +kernel
theorem dXL_law_601 : decode cXL_law 601 = .ok (.iconst 1, 1) := by decide +kernel
theorem dXL_law_602 : decode cXL_law 602 = .ok (.iadd, 1) := by decide +kernel
theorem dXL_law_603 : decode cXL_law 603 = .ok (.iaload, 1) := by decide +kernel
theorem dXL_law_604 : decode cXL_law 604 = .ok (.invokevirtual 83, 3) := by decide +kernel
theorem dXL_law_607 : decode cXL_law 607 = .ok (.if_icmp .eq 64, 3) := by decide +kernel
theorem dXL_law_610 : decode cXL_law 610 = .ok (.iconst 0, 1) := by decide +kernel
theorem dXL_law_611 : decode cXL_law 611 = .ok (.ireturn, 1) := by decide +kernel
theorem dXL_law_612 : decode cXL_law 612 = .ok (.aload_n 1, 1) := by decide +kernel
theorem dXL_law_613 : decode cXL_law 613 = .ok (.aload_n 0, 1) := by decide +kernel
theorem dXL_law_614 : decode cXL_law 614 = .ok (.iload_n 3, 1) := by decide +kernel
theorem dXL_law_615 : decode cXL_law 615 = .ok (.iconst 1, 1) := by decide +kernel
theorem dXL_law_616 : decode cXL_law 616 = .ok (.iadd, 1) := by decide +kernel
theorem dXL_law_617 : decode cXL_law 617 = .ok (.iaload, 1) := by decide +kernel
theorem dXL_law_618 : decode cXL_law 618 = .ok (.invokevirtual 84, 3) := by decide +kernel
theorem dXL_law_621 : decode cXL_law 621 = .ok (.aload_n 2, 1) := by decide +kernel
theorem dXL_law_622 : decode cXL_law 622 = .ok (.aload_n 0, 1) := by decide +kernel
theorem dXL_law_623 : decode cXL_law 623 = .ok (.iload_n 3, 1) := by decide +kernel
theorem dXL_law_624 : decode cXL_law 624 = .ok (.iconst 1, 1) := by decide +kernel
theorem dXL_law_625 : decode cXL_law 625 = .ok (.iadd, 1) := by decide +kernel
theorem dXL_law_626 : decode cXL_law 626 = .ok (.iaload, 1) := by decide +kernel
theorem dXL_law_627 : decode cXL_law 627 = .ok (.invokevirtual 87, 3) := by decide +kernel
theorem dXL_law_630 : decode cXL_law 630 = .ok (.if_icmp .eq 41, 3) := by decide +kernel
theorem dXL_law_633 : decode cXL_law 633 = .ok (.iconst 0, 1) := by decide +kernel
theorem dXL_law_634 : decode cXL_law 634 = .ok (.ireturn, 1) := by decide +kernel
theorem dXL_law_635 : decode cXL_law 635 = .ok (.aload_n 1, 1) := by decide +kernel
theorem dXL_law_636 : decode cXL_law 636 = .ok (.invokevirtual 88, 3) := by decide +kernel
theorem dXL_law_639 : decode cXL_law 639 = .ok (.aload_n 2, 1) := by decide +kernel
theorem dXL_law_640 : decode cXL_law 640 = .ok (.invokevirtual 91, 3) := by decide +kernel
theorem dXL_law_643 : decode cXL_law 643 = .ok (.if_icmp .eq 28, 3) := by decide +kernel
theorem dXL_law_646 : decode cXL_law 646 = .ok (.iconst 0, 1) := by decide +kernel
theorem dXL_law_647 : decode cXL_law 647 = .ok (.ireturn, 1) := by decide +kernel
theorem dXL_law_648 : decode cXL_law 648 = .ok (.aload_n 1, 1) := by decide +kernel
theorem dXL_law_649 : decode cXL_law 649 = .ok (.aload_n 0, 1) := by decide +kernel
theorem dXL_law_650 : decode cXL_law 650 = .ok (.iload_n 3, 1) := by decide +kernel
theorem dXL_law_651 : decode cXL_law 651 = .ok (.iconst 1, 1) := by decide +kernel
theorem dXL_law_652 : decode cXL_law 652 = .ok (.iadd, 1) := by decide +kernel
theorem dXL_law_653 : decode cXL_law 653 = .ok (.iaload, 1) := by decide +kernel
theorem dXL_law_654 : decode cXL_law 654 = .ok (.invokevirtual 92, 3) := by decide +kernel
theorem dXL_law_657 : decode cXL_law 657 = .ok (.aload_n 2, 1) := by decide +kernel
theorem dXL_law_658 : decode cXL_law 658 = .ok (.aload_n 0, 1) := by decide +kernel
theorem dXL_law_659 : decode cXL_law 659 = .ok (.iload_n 3, 1) := by decide +kernel
theorem dXL_law_660 : decode cXL_law 660 = .ok (.iconst 1, 1) := by decide +kernel
theorem dXL_law_661 : decode cXL_law 661 = .ok (.iadd, 1) := by decide +kernel
theorem dXL_law_662 : decode cXL_law 662 = .ok (.iaload, 1) := by decide +kernel
theorem dXL_law_663 : decode cXL_law 663 = .ok (.invokevirtual 95, 3) := by decide +kernel
theorem dXL_law_666 : decode cXL_law 666 = .ok (.if_icmp .eq 5, 3) := by decide +kernel
theorem dXL_law_669 : decode cXL_law 669 = .ok (.iconst 0, 1) := by decide +kernel
theorem dXL_law_670 : decode cXL_law 670 = .ok (.ireturn, 1) := by decide +kernel
theorem dXL_law_671 : decode cXL_law 671 = .ok (.iinc 3 5, 3) := by decide +kernel
theorem dXL_law_674 : decode cXL_law 674 = .ok (.goto (-656), 3) := by decide +kernel
theorem dXL_law_677 : decode cXL_law 677 = .ok (.iconst 1, 1) := by decide +kernel
theorem dXL_law_678 : decode cXL_law 678 = .ok (.ireturn, 1) := by decide +kernel
end
