section
-- ===== PART A: goes FIRST, ahead of the names: the tables' words, and 'selects' of the private methods out of them =====
/-- a private method of a class that the tables say can be made, by its rows of tables_1 -/
def lw_okq (q : MethodName × Nat) : Prop := (q.1.cls ≠ "java/lang/invoke/MethodHandle" ∧ q.1.cls ≠ "java/lang/invoke/VarHandle") ∧ Cond.instantiable q.1.cls q.2 ∈ tables_1 ∧ Cond.privateMethod q.1 ∈ tables_1 ∧ Cond.instanceMethod q.1 ∈ tables_1
theorem lw_p0 : lw_okq (⟨"DataGuards$Profile", "shifted", "(II)I"⟩, 6) := ⟨⟨by decide +kernel, by decide +kernel⟩, List.mem_of_getElem? (i := 26) (by decide +kernel), List.mem_of_getElem? (i := 221) (by decide +kernel), List.mem_of_getElem? (i := 222) (by decide +kernel)⟩
theorem lw_p1 : lw_okq (⟨"DataGuards", "endOfRow", "(I)I"⟩, 5) := ⟨⟨by decide +kernel, by decide +kernel⟩, List.mem_of_getElem? (i := 15) (by decide +kernel), List.mem_of_getElem? (i := 243) (by decide +kernel), List.mem_of_getElem? (i := 244) (by decide +kernel)⟩
theorem lw_p2 : lw_okq (⟨"DataGuards$Receiver", "isInError", "(I)Z"⟩, 4) := ⟨⟨by decide +kernel, by decide +kernel⟩, List.mem_of_getElem? (i := 103) (by decide +kernel), List.mem_of_getElem? (i := 251) (by decide +kernel), List.mem_of_getElem? (i := 252) (by decide +kernel)⟩
theorem lw_p3 : lw_okq (⟨"DataGuards$Receiver", "rowCounter", "()I"⟩, 4) := ⟨⟨by decide +kernel, by decide +kernel⟩, List.mem_of_getElem? (i := 103) (by decide +kernel), List.mem_of_getElem? (i := 261) (by decide +kernel), List.mem_of_getElem? (i := 262) (by decide +kernel)⟩
theorem lw_p4 : lw_okq (⟨"DataGuards$Receiver", "findingOf", "(I)I"⟩, 4) := ⟨⟨by decide +kernel, by decide +kernel⟩, List.mem_of_getElem? (i := 103) (by decide +kernel), List.mem_of_getElem? (i := 265) (by decide +kernel), List.mem_of_getElem? (i := 266) (by decide +kernel)⟩
theorem lw_p5 : lw_okq (⟨"DataGuards$History", "joinedAfter", "(I)I"⟩, 5) := ⟨⟨by decide +kernel, by decide +kernel⟩, List.mem_of_getElem? (i := 124) (by decide +kernel), List.mem_of_getElem? (i := 284) (by decide +kernel), List.mem_of_getElem? (i := 285) (by decide +kernel)⟩
theorem lw_p6 : lw_okq (⟨"DataGuards$History", "countOfLast", "(II)I"⟩, 5) := ⟨⟨by decide +kernel, by decide +kernel⟩, List.mem_of_getElem? (i := 124) (by decide +kernel), List.mem_of_getElem? (i := 288) (by decide +kernel), List.mem_of_getElem? (i := 289) (by decide +kernel)⟩
theorem lw_p7 : lw_okq (⟨"java/lang/Throwable", "fillInStackTrace", "(I)Ljava/lang/Throwable;"⟩, 6) := ⟨⟨by decide +kernel, by decide +kernel⟩, List.mem_of_getElem? (i := 394) (by decide +kernel), List.mem_of_getElem? (i := 392) (by decide +kernel), List.mem_of_getElem? (i := 393) (by decide +kernel)⟩
theorem lw_p8 : lw_okq (⟨"DataGuardsModel", "begin", "(I)J"⟩, 23) := ⟨⟨by decide +kernel, by decide +kernel⟩, List.mem_of_getElem? (i := 427) (by decide +kernel), List.mem_of_getElem? (i := 518) (by decide +kernel), List.mem_of_getElem? (i := 519) (by decide +kernel)⟩
theorem lw_p9 : lw_okq (⟨"DataGuardsModel", "add", "(JI)J"⟩, 23) := ⟨⟨by decide +kernel, by decide +kernel⟩, List.mem_of_getElem? (i := 427) (by decide +kernel), List.mem_of_getElem? (i := 522) (by decide +kernel), List.mem_of_getElem? (i := 523) (by decide +kernel)⟩
theorem lw_p10 : lw_okq (⟨"DataGuardsModel", "end", "(J)J"⟩, 23) := ⟨⟨by decide +kernel, by decide +kernel⟩, List.mem_of_getElem? (i := 427) (by decide +kernel), List.mem_of_getElem? (i := 530) (by decide +kernel), List.mem_of_getElem? (i := 531) (by decide +kernel)⟩
theorem lw_p11 : lw_okq (⟨"DataGuardsModel", "find", "(I)I"⟩, 23) := ⟨⟨by decide +kernel, by decide +kernel⟩, List.mem_of_getElem? (i := 427) (by decide +kernel), List.mem_of_getElem? (i := 551) (by decide +kernel), List.mem_of_getElem? (i := 552) (by decide +kernel)⟩
def lw_privs_1 : List (MethodName × Nat) := [(⟨"DataGuards$Profile", "shifted", "(II)I"⟩, 6), (⟨"DataGuards", "endOfRow", "(I)I"⟩, 5), (⟨"DataGuards$Receiver", "isInError", "(I)Z"⟩, 4), (⟨"DataGuards$Receiver", "rowCounter", "()I"⟩, 4), (⟨"DataGuards$Receiver", "findingOf", "(I)I"⟩, 4), (⟨"DataGuards$History", "joinedAfter", "(I)I"⟩, 5), (⟨"DataGuards$History", "countOfLast", "(II)I"⟩, 5), (⟨"java/lang/Throwable", "fillInStackTrace", "(I)Ljava/lang/Throwable;"⟩, 6), (⟨"DataGuardsModel", "begin", "(I)J"⟩, 23), (⟨"DataGuardsModel", "add", "(JI)J"⟩, 23), (⟨"DataGuardsModel", "end", "(J)J"⟩, 23), (⟨"DataGuardsModel", "find", "(I)I"⟩, 23)]
theorem lw_r1 : ∀ q ∈ lw_privs_1, lw_okq q := List.forall_mem_cons.mpr ⟨lw_p0, List.forall_mem_cons.mpr ⟨lw_p1, List.forall_mem_cons.mpr ⟨lw_p2, List.forall_mem_cons.mpr ⟨lw_p3, List.forall_mem_cons.mpr ⟨lw_p4, List.forall_mem_cons.mpr ⟨lw_p5, List.forall_mem_cons.mpr ⟨lw_p6, List.forall_mem_cons.mpr ⟨lw_p7, List.forall_mem_cons.mpr ⟨lw_p8, List.forall_mem_cons.mpr ⟨lw_p9, List.forall_mem_cons.mpr ⟨lw_p10, List.forall_mem_cons.mpr ⟨lw_p11, fun _ h => absurd h List.not_mem_nil⟩⟩⟩⟩⟩⟩⟩⟩⟩⟩⟩⟩
def lw_privs : List (MethodName × Nat) := lw_privs_1
def lw_tbl : List Cond := k2_sels lw_privs ++ tables_1
theorem lw_privs_ok : ∀ q ∈ lw_privs, lw_okq q := lw_r1
end
section
/-! ===== BEGIN words of one list among another's, by their places ===== -/
theorem goodIn_r {big : List Cond} (ws : List Cond) (ps : List Nat) (hp : ws = ps.filterMap (fun i => big[i]?)) (h : ws.all goodWord = true) : GoodIn big ws := by
  intro w hw
  have h1 := List.all_eq_true.mp h w hw
  rw [hp] at hw
  obtain ⟨i, -, hi⟩ := List.mem_filterMap.mp hw
  have hm : w ∈ big := by first | exact List.mem_of_getElem? hi | exact List.getElem?_mem hi
  exact ⟨hm, good_of_word h1⟩
theorem goodIn_app {big a b : List Cond} (ha : GoodIn big a) (hb : GoodIn big b) : GoodIn big (a ++ b) := fun w h => (List.mem_append.mp h).elim (ha w) (hb w)
theorem goodIn_ca {big a b : List Cond} {c : Cond} (ha : GoodIn big (c :: a)) (hb : GoodIn big b) : GoodIn big (c :: (a ++ b)) := fun w h => (List.mem_cons.mp h).elim (fun e => ha w (List.mem_cons.mpr (Or.inl e))) (fun h => (List.mem_append.mp h).elim (fun h => ha w (List.mem_cons.mpr (Or.inr h))) (hb w))
theorem goodIn_sub {big ws : List Cond} (hm : ∀ w ∈ ws, w ∈ big) (h : ws.all goodWord = true) : GoodIn big ws := fun w hw => ⟨hm w hw, good_of_word (List.all_eq_true.mp h w hw)⟩
/-! ===== END ===== -/

/-! ===== BEGIN printed: names, fields, word lists, decode rows ===== -/
def RX0 : String := "DataGuards$History"
def TX0 : u_T := fun k => match k with
  | 0 => ("DataGuards$History", "findings", "[I", true)
  | 1 => ("DataGuards$History", "rows", "I", false)
  | 2 => ("DataGuards$History", "goodRows", "I", false)
  | 3 => ("DataGuards$History", "everFoundBits", "I", false)
  | _ => ("DataGuards$History", "joined", "I", false)
def tyX0 : Nat → FieldType := fun k => match k with
  | 0 => .array .int
  | 1 => .int
  | 2 => .int
  | 3 => .int
  | _ => .int
abbrev wsX00 : List Cond := u_ws RX0 TX0 5
theorem nmX0 : ∀ a, a < 5 → ∀ b, b < 5 → a ≠ b → (TX0 a).2.1 ≠ (TX0 b).2.1 := by decide +kernel
theorem tyX0_ok : ∀ k, k < 5 → parseFieldDescriptor (TX0 k).2.2.1 = some (tyX0 k) := by decide +kernel
abbrev cX0_init : ByteArray := prog_2_method_1_code
def yX0_init : MethodName := ⟨RX0, "<init>", "()V"⟩
abbrev cX0_add : ByteArray := prog_2_method_2_code
def yX0_add : MethodName := ⟨RX0, "add", "(I)V"⟩
abbrev cX0_finding : ByteArray := prog_2_method_3_code
def yX0_finding : MethodName := ⟨RX0, "finding", "(I)I"⟩
abbrev cX0_everFound : ByteArray := prog_2_method_4_code
def yX0_everFound : MethodName := ⟨RX0, "everFound", "(I)Z"⟩
abbrev cX0_joinedAfter : ByteArray := prog_2_method_5_code
def yX0_joinedAfter : MethodName := ⟨RX0, "joinedAfter", "(I)I"⟩
abbrev cX0_countOfLast : ByteArray := prog_2_method_6_code
def yX0_countOfLast : MethodName := ⟨RX0, "countOfLast", "(II)I"⟩
def RX1 : String := "DataGuards$Octets"
def TX1 : u_T := fun k => match k with
  | 0 => ("DataGuards$Octets", "places", "[B", true)
  | _ => ("DataGuards$Octets", "length", "I", false)
def tyX1 : Nat → FieldType := fun k => match k with
  | 0 => .array .byte
  | _ => .int
abbrev wsX10 : List Cond := u_ws RX1 TX1 2
theorem nmX1 : ∀ a, a < 2 → ∀ b, b < 2 → a ≠ b → (TX1 a).2.1 ≠ (TX1 b).2.1 := by decide +kernel
theorem tyX1_ok : ∀ k, k < 2 → parseFieldDescriptor (TX1 k).2.2.1 = some (tyX1 k) := by decide +kernel
abbrev cX1_init : ByteArray := prog_3_method_1_code
def yX1_init : MethodName := ⟨RX1, "<init>", "()V"⟩
abbrev cX1_has : ByteArray := prog_3_method_2_code
def yX1_has : MethodName := ⟨RX1, "has", "(I)Z"⟩
abbrev cX1_get : ByteArray := prog_3_method_3_code
def yX1_get : MethodName := ⟨RX1, "get", "(I)I"⟩
abbrev cX1_add : ByteArray := prog_3_method_4_code
def yX1_add : MethodName := ⟨RX1, "add", "(I)Z"⟩
abbrev cX1_addAll : ByteArray := prog_3_method_5_code
def yX1_addAll : MethodName := ⟨RX1, "addAll", "(LDataGuards$Octets;)V"⟩
abbrev cX1_addNumber : ByteArray := prog_3_method_6_code
def yX1_addNumber : MethodName := ⟨RX1, "addNumber", "(II)V"⟩
abbrev cX1_numberAt : ByteArray := prog_3_method_7_code
def yX1_numberAt : MethodName := ⟨RX1, "numberAt", "(II)I"⟩
abbrev cX1_flip : ByteArray := prog_3_method_8_code
def yX1_flip : MethodName := ⟨RX1, "flip", "(II)V"⟩
abbrev cX1_clear : ByteArray := prog_3_method_9_code
def yX1_clear : MethodName := ⟨RX1, "clear", "()V"⟩
def RX2 : String := "DataGuards$Profile"
def TX2 : u_T := fun k => match k with
  | 0 => ("DataGuards$Profile", "bits", "I", true)
  | 1 => ("DataGuards$Profile", "shape", "I", true)
  | 2 => ("DataGuards$Profile", "begin", "I", true)
  | 3 => ("DataGuards$Profile", "end", "I", true)
  | 4 => ("DataGuards$Profile", "counters", "I", true)
  | _ => ("DataGuards$Profile", "counterOctets", "I", true)
def tyX2 : Nat → FieldType := fun k => match k with
  | 0 => .int
  | 1 => .int
  | 2 => .int
  | 3 => .int
  | 4 => .int
  | _ => .int
abbrev wsX20 : List Cond := u_ws RX2 TX2 6
theorem nmX2 : ∀ a, a < 6 → ∀ b, b < 6 → a ≠ b → (TX2 a).2.1 ≠ (TX2 b).2.1 := by decide +kernel
theorem tyX2_ok : ∀ k, k < 6 → parseFieldDescriptor (TX2 k).2.2.1 = some (tyX2 k) := by decide +kernel
abbrev cX2_init : ByteArray := prog_4_method_1_code
def yX2_init : MethodName := ⟨RX2, "<init>", "(IIIIII)V"⟩
abbrev cX2_numbered : ByteArray := prog_4_method_2_code
def yX2_numbered : MethodName := ⟨RX2, "numbered", "(I)LDataGuards$Profile;"⟩
abbrev cX2_checkOctets : ByteArray := prog_4_method_3_code
def yX2_checkOctets : MethodName := ⟨RX2, "checkOctets", "()I"⟩
abbrev cX2_goingRound : ByteArray := prog_4_method_4_code
def yX2_goingRound : MethodName := ⟨RX2, "goingRound", "(I)I"⟩
abbrev cX2_checkOver : ByteArray := prog_4_method_5_code
def yX2_checkOver : MethodName := ⟨RX2, "checkOver", "(ILDataGuards$Octets;I)I"⟩
abbrev cX2_shifted : ByteArray := prog_4_method_6_code
def yX2_shifted : MethodName := ⟨RX2, "shifted", "(II)I"⟩
def RX3 : String := "DataGuards$Receiver"
def TX3 : u_T := fun k => match k with
  | 0 => ("DataGuards$Receiver", "profile", "LDataGuards$Profile;", true)
  | 1 => ("DataGuards$Receiver", "row", "LDataGuards$Octets;", true)
  | 2 => ("DataGuards$Receiver", "tooMany", "Z", false)
  | _ => ("DataGuards$Receiver", "counterBefore", "I", false)
def tyX3 : Nat → FieldType := fun k => match k with
  | 0 => .object "DataGuards$Profile"
  | 1 => .object "DataGuards$Octets"
  | 2 => .boolean
  | _ => .int
abbrev wsX30 : List Cond := u_ws RX3 TX3 4
theorem nmX3 : ∀ a, a < 4 → ∀ b, b < 4 → a ≠ b → (TX3 a).2.1 ≠ (TX3 b).2.1 := by decide +kernel
theorem tyX3_ok : ∀ k, k < 4 → parseFieldDescriptor (TX3 k).2.2.1 = some (tyX3 k) := by decide +kernel
abbrev cX3_init : ByteArray := prog_5_method_1_code
def yX3_init : MethodName := ⟨RX3, "<init>", "(LDataGuards$Profile;)V"⟩
abbrev cX3_collect : ByteArray := prog_5_method_2_code
def yX3_collect : MethodName := ⟨RX3, "collect", "(B)V"⟩
abbrev cX3_endRow : ByteArray := prog_5_method_3_code
def yX3_endRow : MethodName := ⟨RX3, "endRow", "(I)I"⟩
abbrev cX3_isInError : ByteArray := prog_5_method_4_code
def yX3_isInError : MethodName := ⟨RX3, "isInError", "(I)Z"⟩
abbrev cX3_rowCounter : ByteArray := prog_5_method_5_code
def yX3_rowCounter : MethodName := ⟨RX3, "rowCounter", "()I"⟩
abbrev cX3_findingOf : ByteArray := prog_5_method_6_code
def yX3_findingOf : MethodName := ⟨RX3, "findingOf", "(I)I"⟩
abbrev cX3_findingOfSteps : ByteArray := prog_5_method_7_code
def yX3_findingOfSteps : MethodName := ⟨RX3, "findingOfSteps", "(I)I"⟩
def RX4 : String := "DataGuards$Sender"
def TX4 : u_T := fun k => match k with
  | 0 => ("DataGuards$Sender", "profile", "LDataGuards$Profile;", true)
  | 1 => ("DataGuards$Sender", "data", "LDataGuards$Octets;", true)
  | 2 => ("DataGuards$Sender", "row", "LDataGuards$Octets;", true)
  | 3 => ("DataGuards$Sender", "nextCounter", "I", false)
  | 4 => ("DataGuards$Sender", "flipPlace", "I", false)
  | 5 => ("DataGuards$Sender", "flipMask", "I", false)
  | _ => ("DataGuards$Sender", "skip", "I", false)
def tyX4 : Nat → FieldType := fun k => match k with
  | 0 => .object "DataGuards$Profile"
  | 1 => .object "DataGuards$Octets"
  | 2 => .object "DataGuards$Octets"
  | 3 => .int
  | 4 => .int
  | 5 => .int
  | _ => .int
abbrev wsX40 : List Cond := u_ws RX4 TX4 7
theorem nmX4 : ∀ a, a < 7 → ∀ b, b < 7 → a ≠ b → (TX4 a).2.1 ≠ (TX4 b).2.1 := by decide +kernel
theorem tyX4_ok : ∀ k, k < 7 → parseFieldDescriptor (TX4 k).2.2.1 = some (tyX4 k) := by decide +kernel
abbrev cX4_init : ByteArray := prog_6_method_1_code
def yX4_init : MethodName := ⟨RX4, "<init>", "(LDataGuards$Profile;)V"⟩
abbrev cX4_collect : ByteArray := prog_6_method_2_code
def yX4_collect : MethodName := ⟨RX4, "collect", "(B)V"⟩
abbrev cX4_plantFlip : ByteArray := prog_6_method_3_code
def yX4_plantFlip : MethodName := ⟨RX4, "plantFlip", "(II)V"⟩
abbrev cX4_plantSkip : ByteArray := prog_6_method_4_code
def yX4_plantSkip : MethodName := ⟨RX4, "plantSkip", "(I)V"⟩
abbrev cX4_makeRow : ByteArray := prog_6_method_5_code
def yX4_makeRow : MethodName := ⟨RX4, "makeRow", "(I)I"⟩
def RX5 : String := "DataGuards"
def TX5 : u_T := fun k => match k with
  | 0 => ("DataGuards", "sender", "LDataGuards$Sender;", true)
  | 1 => ("DataGuards", "receiver", "LDataGuards$Receiver;", true)
  | 2 => ("DataGuards", "history", "LDataGuards$History;", true)
  | 3 => ("DataGuards", "timeTold", "J", false)
  | _ => ("DataGuards", "timeOfGoodRow", "J", false)
def tyX5 : Nat → FieldType := fun k => match k with
  | 0 => .object "DataGuards$Sender"
  | 1 => .object "DataGuards$Receiver"
  | 2 => .object "DataGuards$History"
  | 3 => .long
  | _ => .long
abbrev wsX50 : List Cond := u_ws RX5 TX5 5
theorem nmX5 : ∀ a, a < 5 → ∀ b, b < 5 → a ≠ b → (TX5 a).2.1 ≠ (TX5 b).2.1 := by decide +kernel
theorem tyX5_ok : ∀ k, k < 5 → parseFieldDescriptor (TX5 k).2.2.1 = some (tyX5 k) := by decide +kernel
abbrev cX5_init : ByteArray := prog_1_method_1_code
def yX5_init : MethodName := ⟨RX5, "<init>", "(I)V"⟩
abbrev cX5_octet : ByteArray := prog_1_method_2_code
def yX5_octet : MethodName := ⟨RX5, "octet", "(B)V"⟩
abbrev cX5_protect : ByteArray := prog_1_method_3_code
def yX5_protect : MethodName := ⟨RX5, "protect", "(I)I"⟩
abbrev cX5_out : ByteArray := prog_1_method_4_code
def yX5_out : MethodName := ⟨RX5, "out", "(I)B"⟩
abbrev cX5_check : ByteArray := prog_1_method_5_code
def yX5_check : MethodName := ⟨RX5, "check", "(IBZ)I"⟩
abbrev cX5_counter : ByteArray := prog_1_method_6_code
def yX5_counter : MethodName := ⟨RX5, "counter", "()I"⟩
abbrev cX5_state : ByteArray := prog_1_method_7_code
def yX5_state : MethodName := ⟨RX5, "state", "()I"⟩
abbrev cX5_span : ByteArray := prog_1_method_8_code
def yX5_span : MethodName := ⟨RX5, "span", "(I)I"⟩
abbrev cX5_plant : ByteArray := prog_1_method_9_code
def yX5_plant : MethodName := ⟨RX5, "plant", "(III)I"⟩
abbrev cX5_valid : ByteArray := prog_1_method_10_code
def yX5_valid : MethodName := ⟨RX5, "valid", "()I"⟩
abbrev cX5_react : ByteArray := prog_1_method_11_code
def yX5_react : MethodName := ⟨RX5, "react", "(J)I"⟩
abbrev cX5_told : ByteArray := prog_1_method_12_code
def yX5_told : MethodName := ⟨RX5, "told", "(I)Z"⟩
abbrev cX5_polynomial : ByteArray := prog_1_method_13_code
def yX5_polynomial : MethodName := ⟨RX5, "polynomial", "(I)I"⟩
abbrev cX5_endOfRow : ByteArray := prog_1_method_14_code
def yX5_endOfRow : MethodName := ⟨RX5, "endOfRow", "(I)I"⟩
abbrev cX5_isIdentity : ByteArray := prog_1_method_15_code
def yX5_isIdentity : MethodName := ⟨RX5, "isIdentity", "(I)Z"⟩
abbrev cX5_sideOf : ByteArray := prog_1_method_16_code
def yX5_sideOf : MethodName := ⟨RX5, "sideOf", "(I)I"⟩
def RX6 : String := "DataGuardsModel"
def TX6 : u_T := fun k => match k with
  | 0 => ("DataGuardsModel", "code", "I", false)
  | 1 => ("DataGuardsModel", "profile", "I", true)
  | 2 => ("DataGuardsModel", "bits", "I", true)
  | 3 => ("DataGuardsModel", "counters", "I", true)
  | 4 => ("DataGuardsModel", "head", "I", true)
  | 5 => ("DataGuardsModel", "given", "I", false)
  | 6 => ("DataGuardsModel", "data", "[I", true)
  | 7 => ("DataGuardsModel", "made", "I", false)
  | 8 => ("DataGuardsModel", "row", "[I", true)
  | 9 => ("DataGuardsModel", "counter", "I", false)
  | 10 => ("DataGuardsModel", "flipAt", "I", false)
  | 11 => ("DataGuardsModel", "flip", "I", false)
  | 12 => ("DataGuardsModel", "skip", "I", false)
  | 13 => ("DataGuardsModel", "come", "I", false)
  | 14 => ("DataGuardsModel", "taken", "[I", true)
  | 15 => ("DataGuardsModel", "before", "I", false)
  | 16 => ("DataGuardsModel", "many", "I", false)
  | 17 => ("DataGuardsModel", "last", "[I", true)
  | 18 => ("DataGuardsModel", "joined", "I", false)
  | 19 => ("DataGuardsModel", "valid", "I", false)
  | 20 => ("DataGuardsModel", "told", "[Z", true)
  | 21 => ("DataGuardsModel", "now", "J", false)
  | _ => ("DataGuardsModel", "since", "J", false)
def tyX6 : Nat → FieldType := fun k => match k with
  | 0 => .int
  | 1 => .int
  | 2 => .int
  | 3 => .int
  | 4 => .int
  | 5 => .int
  | 6 => .array .int
  | 7 => .int
  | 8 => .array .int
  | 9 => .int
  | 10 => .int
  | 11 => .int
  | 12 => .int
  | 13 => .int
  | 14 => .array .int
  | 15 => .int
  | 16 => .int
  | 17 => .array .int
  | 18 => .int
  | 19 => .int
  | 20 => .array .boolean
  | 21 => .long
  | _ => .long
abbrev wsX60 : List Cond := u_ws RX6 TX6 23
theorem nmX6 : ∀ a, a < 23 → ∀ b, b < 23 → a ≠ b → (TX6 a).2.1 ≠ (TX6 b).2.1 := by decide +kernel
theorem tyX6_ok : ∀ k, k < 23 → parseFieldDescriptor (TX6 k).2.2.1 = some (tyX6 k) := by decide +kernel
abbrev cX6_init : ByteArray := prog_8_method_1_code
def yX6_init : MethodName := ⟨RX6, "<init>", "(I)V"⟩
abbrev cX6_thrown : ByteArray := prog_8_method_2_code
def yX6_thrown : MethodName := ⟨RX6, "thrown", "()I"⟩
abbrev cX6_add : ByteArray := prog_8_method_3_code
def yX6_add : MethodName := ⟨RX6, "add", "(JI)J"⟩
abbrev cX6_begin : ByteArray := prog_8_method_4_code
def yX6_begin : MethodName := ⟨RX6, "begin", "(I)J"⟩
abbrev cX6_end : ByteArray := prog_8_method_5_code
def yX6_end : MethodName := ⟨RX6, "end", "(J)J"⟩
abbrev cX6_octet : ByteArray := prog_8_method_6_code
def yX6_octet : MethodName := ⟨RX6, "octet", "(B)V"⟩
abbrev cX6_protect : ByteArray := prog_8_method_7_code
def yX6_protect : MethodName := ⟨RX6, "protect", "(I)I"⟩
abbrev cX6_out : ByteArray := prog_8_method_8_code
def yX6_out : MethodName := ⟨RX6, "out", "(I)B"⟩
abbrev cX6_counter : ByteArray := prog_8_method_9_code
def yX6_counter : MethodName := ⟨RX6, "counter", "()I"⟩
abbrev cX6_plant : ByteArray := prog_8_method_10_code
def yX6_plant : MethodName := ⟨RX6, "plant", "(III)I"⟩
abbrev cX6_find : ByteArray := prog_8_method_11_code
def yX6_find : MethodName := ⟨RX6, "find", "(I)I"⟩
abbrev cX6_good : ByteArray := prog_8_method_12_code
def yX6_good : MethodName := ⟨RX6, "good", "(I)Z"⟩
abbrev cX6_check : ByteArray := prog_8_method_13_code
def yX6_check : MethodName := ⟨RX6, "check", "(IBZ)I"⟩
abbrev cX6_state : ByteArray := prog_8_method_14_code
def yX6_state : MethodName := ⟨RX6, "state", "()I"⟩
abbrev cX6_span : ByteArray := prog_8_method_15_code
def yX6_span : MethodName := ⟨RX6, "span", "(I)I"⟩
abbrev cX6_valid : ByteArray := prog_8_method_16_code
def yX6_valid : MethodName := ⟨RX6, "valid", "()I"⟩
abbrev cX6_react : ByteArray := prog_8_method_17_code
def yX6_react : MethodName := ⟨RX6, "react", "(J)I"⟩
abbrev cX6_told : ByteArray := prog_8_method_18_code
def yX6_told : MethodName := ⟨RX6, "told", "(I)Z"⟩
abbrev cX6_polynomial : ByteArray := prog_8_method_19_code
def yX6_polynomial : MethodName := ⟨RX6, "polynomial", "(I)I"⟩
def RJx00060 : String := "java/lang/ArrayIndexOutOfBoundsException"
def TJx00060 : u_T := fun k => match k with
  | 0 => ("java/lang/Throwable", "cause", "Ljava/lang/Throwable;", false)
  | 1 => ("java/lang/Throwable", "stackTrace", "[Ljava/lang/StackTraceElement;", false)
  | 2 => ("java/lang/Throwable", "suppressedExceptions", "Ljava/util/List;", false)
  | 3 => ("java/lang/Throwable", "detailMessage", "Ljava/lang/String;", false)
  | 4 => ("java/lang/Throwable", "backtrace", "Ljava/lang/Object;", false)
  | _ => ("java/lang/Throwable", "depth", "I", false)
def tyJx00060 : Nat → FieldType := fun k => match k with
  | 0 => .object "java/lang/Throwable"
  | 1 => .array (.object "java/lang/StackTraceElement")
  | 2 => .object "java/util/List"
  | 3 => .object "java/lang/String"
  | 4 => .object "java/lang/Object"
  | _ => .int
abbrev wsJx000600 : List Cond := u_ws RJx00060 TJx00060 6
theorem nmJx00060 : ∀ a, a < 6 → ∀ b, b < 6 → a ≠ b → (TJx00060 a).2.1 ≠ (TJx00060 b).2.1 := by decide +kernel
theorem tyJx00060_ok : ∀ k, k < 6 → parseFieldDescriptor (TJx00060 k).2.2.1 = some (tyJx00060 k) := by decide +kernel
abbrev cJx00060_init_a7421 : ByteArray := prog_9_method_2_code
def yJx00060_init_a7421 : MethodName := ⟨RJx00060, "<init>", "(Ljava/lang/String;)V"⟩
def RJ9 : String := "java/lang/Math"
def TJ9 : u_T := fun k => match k with
  | _ => ("", "", "", false)
def tyJ9 : Nat → FieldType := fun k => match k with
  | _ => .int
abbrev wsJ90 : List Cond := u_ws RJ9 TJ9 0
theorem nmJ9 : ∀ a, a < 0 → ∀ b, b < 0 → a ≠ b → (TJ9 a).2.1 ≠ (TJ9 b).2.1 := by decide +kernel
theorem tyJ9_ok : ∀ k, k < 0 → parseFieldDescriptor (TJ9 k).2.2.1 = some (tyJ9 k) := by decide +kernel
abbrev cJ9_floorMod_7cf53 : ByteArray := prog_12_method_50_code
def yJ9_floorMod_7cf53 : MethodName := ⟨RJ9, "floorMod", "(II)I"⟩
abbrev cJ9_min_7cf53 : ByteArray := prog_12_method_69_code
def yJ9_min_7cf53 : MethodName := ⟨RJ9, "min", "(II)I"⟩
def RJ0 : String := "java/lang/String"
def TJ0 : u_T := fun k => match k with
  | _ => ("", "", "", false)
def tyJ0 : Nat → FieldType := fun k => match k with
  | _ => .int
abbrev wsJ00 : List Cond := u_ws RJ0 TJ0 0
theorem nmJ0 : ∀ a, a < 0 → ∀ b, b < 0 → a ≠ b → (TJ0 a).2.1 ≠ (TJ0 b).2.1 := by decide +kernel
theorem tyJ0_ok : ∀ k, k < 0 → parseFieldDescriptor (TJ0 k).2.2.1 = some (tyJ0 k) := by decide +kernel
def RL : String := "DataGuardsLaw"
abbrev cL_cell : ByteArray := method_2_code
def yL_cell : MethodName := ⟨RL, "cell", "([II)I"⟩
abbrev cL_out : ByteArray := method_3_code
def yL_out : MethodName := ⟨RL, "out", "(LDataGuards;I[J)I"⟩
abbrev cL_law : ByteArray := code
def yL_law : MethodName := ⟨RL, "law", "([I)Z"⟩
def wsX0_init : List Cond := .code yX0_init cX0_init 1 none :: ([.methodLink RX0 3 objectInit, .instanceMethod objectInit, .code objectInit ⟨#[0xb1]⟩ 1 none, .arrayClass .int, .fieldLink RX0 9 "DataGuards$History" "findings" "[I", .fieldLink RX0 15 "DataGuards$History" "joined" "I"] ++ wsX00)
def wsX5_sideOf : List Cond := .code yX5_sideOf cX5_sideOf 1 (some .int) :: ([])
def wsX0_finding : List Cond := .code yX0_finding cX0_finding 2 (some .int) :: ([.fieldLink RX0 19 "DataGuards$History" "rows" "I", .fieldLink RX0 9 "DataGuards$History" "findings" "[I"] ++ wsX00)
def wsX0_countOfLast : List Cond := .code yX0_countOfLast cX0_countOfLast 5 (some .int) :: ([.methodLink RX0 44 yX0_finding, .instanceMethod yX0_finding, .selects RX0 yX0_finding yX0_finding, .initialized RX0, .code yX0_finding cX0_finding 2 (some .int), .fieldLink RX0 19 "DataGuards$History" "rows" "I", .fieldLink RX0 9 "DataGuards$History" "findings" "[I", .static yX5_sideOf, .initialized RX5, .code yX5_sideOf cX5_sideOf 1 (some .int)] ++ wsX00)
def wsX0_joinedAfter : List Cond := .code yX0_joinedAfter cX0_joinedAfter 4 (some .int) :: ([.methodLink RX0 41 yX0_countOfLast, .instanceMethod yX0_countOfLast, .selects RX0 yX0_countOfLast yX0_countOfLast, .initialized RX0, .code yX0_countOfLast cX0_countOfLast 5 (some .int), .methodLink RX0 44 yX0_finding, .instanceMethod yX0_finding, .selects RX0 yX0_finding yX0_finding, .code yX0_finding cX0_finding 2 (some .int), .fieldLink RX0 19 "DataGuards$History" "rows" "I", .fieldLink RX0 9 "DataGuards$History" "findings" "[I", .static yX5_sideOf, .initialized RX5, .code yX5_sideOf cX5_sideOf 1 (some .int)] ++ wsX00)
def wsX0_add_r1 : List Cond := [Cond.fieldLink RX0 9 "DataGuards$History" "findings" "[I", Cond.fieldLink RX0 19 "DataGuards$History" "rows" "I", Cond.methodLink RX0 22 Lib.Math.min.name, Cond.static Lib.Math.min.name, Cond.initialized "java/lang/Math", Cond.code Lib.Math.min.name Lib.Math.min.code 2 (some .int), Cond.fieldLink RX0 32 "DataGuards$History" "goodRows" "I", Cond.fieldLink RX0 35 "DataGuards$History" "everFoundBits" "I", Cond.fieldLink RX0 15 "DataGuards$History" "joined" "I", Cond.static yX5_sideOf, Cond.initialized RX5, Cond.code yX5_sideOf cX5_sideOf 1 (some .int), Cond.methodLink RX0 38 yX0_joinedAfter, Cond.instanceMethod yX0_joinedAfter, Cond.selects RX0 yX0_joinedAfter yX0_joinedAfter, Cond.initialized RX0, Cond.code yX0_joinedAfter cX0_joinedAfter 4 (some .int), Cond.methodLink RX0 41 yX0_countOfLast, Cond.instanceMethod yX0_countOfLast, Cond.selects RX0 yX0_countOfLast yX0_countOfLast, Cond.code yX0_countOfLast cX0_countOfLast 5 (some .int), Cond.methodLink RX0 44 yX0_finding, Cond.instanceMethod yX0_finding, Cond.selects RX0 yX0_finding yX0_finding]
def wsX0_add_r2 : List Cond := [Cond.code yX0_finding cX0_finding 2 (some .int)]
def wsX0_add : List Cond := .code yX0_add cX0_add 3 none :: ((wsX0_add_r1 ++ wsX0_add_r2) ++ wsX00)
def wsX0_everFound : List Cond := .code yX0_everFound cX0_everFound 2 (some .boolean) :: ([.fieldLink RX0 35 "DataGuards$History" "everFoundBits" "I"] ++ wsX00)
def wsX1_init : List Cond := .code yX1_init cX1_init 1 none :: ([.methodLink RX1 3 objectInit, .instanceMethod objectInit, .code objectInit ⟨#[0xb1]⟩ 1 none, .arrayClass .byte, .fieldLink RX1 9 "DataGuards$Octets" "places" "[B"] ++ wsX10)
def wsX1_has : List Cond := .code yX1_has cX1_has 2 (some .boolean) :: ([.fieldLink RX1 15 "DataGuards$Octets" "length" "I", .fieldLink RX1 9 "DataGuards$Octets" "places" "[B"] ++ wsX10)
def wsX1_get : List Cond := .code yX1_get cX1_get 2 (some .int) :: ([.fieldLink RX1 9 "DataGuards$Octets" "places" "[B", .methodLink RX1 19 yX1_has, .instanceMethod yX1_has, .selects RX1 yX1_has yX1_has, .initialized RX1, .code yX1_has cX1_has 2 (some .boolean), .fieldLink RX1 15 "DataGuards$Octets" "length" "I"] ++ wsX10)
def wsX1_add : List Cond := .code yX1_add cX1_add 2 (some .boolean) :: ([.fieldLink RX1 15 "DataGuards$Octets" "length" "I", .fieldLink RX1 9 "DataGuards$Octets" "places" "[B"] ++ wsX10)
def wsX1_addAll : List Cond := .code yX1_addAll cX1_addAll 3 none :: ([.fieldLink RX1 15 "DataGuards$Octets" "length" "I", .methodLink RX1 23 yX1_get, .instanceMethod yX1_get, .selects RX1 yX1_get yX1_get, .initialized RX1, .code yX1_get cX1_get 2 (some .int), .fieldLink RX1 9 "DataGuards$Octets" "places" "[B", .methodLink RX1 19 yX1_has, .instanceMethod yX1_has, .selects RX1 yX1_has yX1_has, .code yX1_has cX1_has 2 (some .boolean), .methodLink RX1 27 yX1_add, .instanceMethod yX1_add, .selects RX1 yX1_add yX1_add, .code yX1_add cX1_add 2 (some .boolean)] ++ wsX10)
def wsX1_addNumber : List Cond := .code yX1_addNumber cX1_addNumber 4 none :: ([.methodLink RX1 27 yX1_add, .instanceMethod yX1_add, .selects RX1 yX1_add yX1_add, .initialized RX1, .code yX1_add cX1_add 2 (some .boolean), .fieldLink RX1 15 "DataGuards$Octets" "length" "I", .fieldLink RX1 9 "DataGuards$Octets" "places" "[B"] ++ wsX10)
def wsX1_numberAt : List Cond := .code yX1_numberAt cX1_numberAt 5 (some .int) :: ([.methodLink RX1 23 yX1_get, .instanceMethod yX1_get, .selects RX1 yX1_get yX1_get, .initialized RX1, .code yX1_get cX1_get 2 (some .int), .fieldLink RX1 9 "DataGuards$Octets" "places" "[B", .methodLink RX1 19 yX1_has, .instanceMethod yX1_has, .selects RX1 yX1_has yX1_has, .code yX1_has cX1_has 2 (some .boolean), .fieldLink RX1 15 "DataGuards$Octets" "length" "I"] ++ wsX10)
def wsX1_flip : List Cond := .code yX1_flip cX1_flip 3 none :: ([.fieldLink RX1 9 "DataGuards$Octets" "places" "[B", .methodLink RX1 19 yX1_has, .instanceMethod yX1_has, .selects RX1 yX1_has yX1_has, .initialized RX1, .code yX1_has cX1_has 2 (some .boolean), .fieldLink RX1 15 "DataGuards$Octets" "length" "I"] ++ wsX10)
def wsX1_clear : List Cond := .code yX1_clear cX1_clear 1 none :: ([.fieldLink RX1 15 "DataGuards$Octets" "length" "I"] ++ wsX10)
def wsX2_init : List Cond := .code yX2_init cX2_init 7 none :: ([.methodLink RX2 3 objectInit, .instanceMethod objectInit, .code objectInit ⟨#[0xb1]⟩ 1 none, .fieldLink RX2 9 "DataGuards$Profile" "bits" "I", .fieldLink RX2 15 "DataGuards$Profile" "shape" "I", .fieldLink RX2 18 "DataGuards$Profile" "begin" "I", .fieldLink RX2 21 "DataGuards$Profile" "end" "I", .fieldLink RX2 24 "DataGuards$Profile" "counters" "I", .fieldLink RX2 27 "DataGuards$Profile" "counterOctets" "I"] ++ wsX20)
def wsX2_numbered : List Cond := .code yX2_numbered cX2_numbered 1 (some (.object "DataGuards$Profile")) :: ([.classLink RX2 10 RX2, .instantiable RX2 6, .initialized RX2, .constant RX2 30 (65535), .constant RX2 34 (-189989101), .constant RX2 35 (65536), .methodLink RX2 31 yX2_init, .instanceMethod yX2_init, .code yX2_init cX2_init 7 none, .methodLink RX2 3 objectInit, .instanceMethod objectInit, .code objectInit ⟨#[0xb1]⟩ 1 none, .fieldLink RX2 9 "DataGuards$Profile" "bits" "I", .fieldLink RX2 15 "DataGuards$Profile" "shape" "I", .fieldLink RX2 18 "DataGuards$Profile" "begin" "I", .fieldLink RX2 21 "DataGuards$Profile" "end" "I", .fieldLink RX2 24 "DataGuards$Profile" "counters" "I", .fieldLink RX2 27 "DataGuards$Profile" "counterOctets" "I"] ++ wsX20)
def wsX2_checkOctets : List Cond := .code yX2_checkOctets cX2_checkOctets 1 (some .int) :: ([.fieldLink RX2 9 "DataGuards$Profile" "bits" "I"] ++ wsX20)
def wsJ9_floorMod_7cf53 : List Cond := .code yJ9_floorMod_7cf53 cJ9_floorMod_7cf53 3 (some .int) :: ([])
def wsX2_goingRound : List Cond := .code yX2_goingRound cX2_goingRound 2 (some .int) :: ([.fieldLink RX2 24 "DataGuards$Profile" "counters" "I", .methodLink RX2 36 yJ9_floorMod_7cf53, .static yJ9_floorMod_7cf53, .initialized RJ9, .code yJ9_floorMod_7cf53 cJ9_floorMod_7cf53 3 (some .int)] ++ wsX20)
def wsX2_shifted : List Cond := .code yX2_shifted cX2_shifted 8 (some .int) :: ([.fieldLink RX2 9 "DataGuards$Profile" "bits" "I", .fieldLink RX2 15 "DataGuards$Profile" "shape" "I"] ++ wsX20)
def wsX2_checkOver : List Cond := .code yX2_checkOver cX2_checkOver 6 (some .int) :: ([.fieldLink RX2 18 "DataGuards$Profile" "begin" "I", .fieldLink RX2 21 "DataGuards$Profile" "end" "I", .methodLink RX2 42 yX2_shifted, .instanceMethod yX2_shifted, .selects RX2 yX2_shifted yX2_shifted, .initialized RX2, .code yX2_shifted cX2_shifted 8 (some .int), .fieldLink RX2 9 "DataGuards$Profile" "bits" "I", .fieldLink RX2 15 "DataGuards$Profile" "shape" "I", .methodLink RX2 45 yX1_get, .instanceMethod yX1_get, .selects RX1 yX1_get yX1_get, .initialized RX1, .code yX1_get cX1_get 2 (some .int), .fieldLink RX1 9 "DataGuards$Octets" "places" "[B", .methodLink RX1 19 yX1_has, .instanceMethod yX1_has, .selects RX1 yX1_has yX1_has, .code yX1_has cX1_has 2 (some .boolean), .fieldLink RX1 15 "DataGuards$Octets" "length" "I"] ++ wsX20 ++ wsX10)
def wsX3_init : List Cond := .code yX3_init cX3_init 2 none :: ([.methodLink RX3 3 objectInit, .instanceMethod objectInit, .code objectInit ⟨#[0xb1]⟩ 1 none, .classLink RX3 9 RX1, .instantiable RX1 2, .initialized RX1, .fieldLink RX3 12 "DataGuards$Receiver" "row" "LDataGuards$Octets;", .fieldLink RX3 18 "DataGuards$Receiver" "counterBefore" "I", .fieldLink RX3 22 "DataGuards$Receiver" "profile" "LDataGuards$Profile;", .instanceMethod yX1_init, .code yX1_init cX1_init 1 none, .methodLink RX1 3 objectInit, .arrayClass .byte, .fieldLink RX1 9 "DataGuards$Octets" "places" "[B"] ++ wsX10 ++ wsX30)
def wsX3_collect : List Cond := .code yX3_collect cX3_collect 2 none :: ([.fieldLink RX3 12 "DataGuards$Receiver" "row" "LDataGuards$Octets;", .fieldLink RX3 30 "DataGuards$Receiver" "tooMany" "Z", .methodLink RX3 26 yX1_add, .instanceMethod yX1_add, .selects RX1 yX1_add yX1_add, .initialized RX1, .code yX1_add cX1_add 2 (some .boolean), .fieldLink RX1 15 "DataGuards$Octets" "length" "I", .fieldLink RX1 9 "DataGuards$Octets" "places" "[B"] ++ wsX30 ++ wsX10)
def wsX3_rowCounter : List Cond := .code yX3_rowCounter cX3_rowCounter 1 (some .int) :: ([.fieldLink RX3 12 "DataGuards$Receiver" "row" "LDataGuards$Octets;", .fieldLink RX3 22 "DataGuards$Receiver" "profile" "LDataGuards$Profile;", .methodLink RX3 59 yX1_numberAt, .instanceMethod yX1_numberAt, .selects RX1 yX1_numberAt yX1_numberAt, .initialized RX1, .code yX1_numberAt cX1_numberAt 5 (some .int), .methodLink RX1 23 yX1_get, .instanceMethod yX1_get, .selects RX1 yX1_get yX1_get, .code yX1_get cX1_get 2 (some .int), .fieldLink RX1 9 "DataGuards$Octets" "places" "[B", .methodLink RX1 19 yX1_has, .instanceMethod yX1_has, .selects RX1 yX1_has yX1_has, .code yX1_has cX1_has 2 (some .boolean), .fieldLink RX1 15 "DataGuards$Octets" "length" "I"] ++ wsX30 ++ wsX20 ++ wsX10)
def wsX3_isInError_r1 : List Cond := [Cond.fieldLink RX3 12 "DataGuards$Receiver" "row" "LDataGuards$Octets;", Cond.fieldLink RX3 22 "DataGuards$Receiver" "profile" "LDataGuards$Profile;", Cond.fieldLink RX3 30 "DataGuards$Receiver" "tooMany" "Z", Cond.methodLink RX3 51 yX2_checkOctets, Cond.instanceMethod yX2_checkOctets, Cond.selects RX2 yX2_checkOctets yX2_checkOctets, Cond.initialized RX2, Cond.code yX2_checkOctets cX2_checkOctets 1 (some .int), Cond.fieldLink RX2 9 "DataGuards$Profile" "bits" "I", Cond.methodLink RX3 59 yX1_numberAt, Cond.instanceMethod yX1_numberAt, Cond.selects RX1 yX1_numberAt yX1_numberAt, Cond.initialized RX1, Cond.code yX1_numberAt cX1_numberAt 5 (some .int), Cond.methodLink RX1 23 yX1_get, Cond.instanceMethod yX1_get, Cond.selects RX1 yX1_get yX1_get, Cond.code yX1_get cX1_get 2 (some .int), Cond.fieldLink RX1 9 "DataGuards$Octets" "places" "[B", Cond.methodLink RX1 19 yX1_has, Cond.instanceMethod yX1_has, Cond.selects RX1 yX1_has yX1_has, Cond.code yX1_has cX1_has 2 (some .boolean), Cond.fieldLink RX1 15 "DataGuards$Octets" "length" "I"]
def wsX3_isInError_r2 : List Cond := [Cond.methodLink RX3 63 yX2_checkOver, Cond.instanceMethod yX2_checkOver, Cond.selects RX2 yX2_checkOver yX2_checkOver, Cond.code yX2_checkOver cX2_checkOver 6 (some .int), Cond.fieldLink RX2 18 "DataGuards$Profile" "begin" "I", Cond.fieldLink RX2 21 "DataGuards$Profile" "end" "I", Cond.methodLink RX2 42 yX2_shifted, Cond.instanceMethod yX2_shifted, Cond.selects RX2 yX2_shifted yX2_shifted, Cond.code yX2_shifted cX2_shifted 8 (some .int), Cond.fieldLink RX2 15 "DataGuards$Profile" "shape" "I", Cond.methodLink RX2 45 yX1_get, Cond.methodLink RX3 37 yX3_rowCounter, Cond.instanceMethod yX3_rowCounter, Cond.selects RX3 yX3_rowCounter yX3_rowCounter, Cond.initialized RX3, Cond.code yX3_rowCounter cX3_rowCounter 1 (some .int)]
def wsX3_isInError : List Cond := .code yX3_isInError cX3_isInError 4 (some .boolean) :: ((wsX3_isInError_r1 ++ wsX3_isInError_r2) ++ wsX30 ++ wsX10 ++ wsX20)
def wsX3_findingOfSteps : List Cond := .code yX3_findingOfSteps cX3_findingOfSteps 1 (some .int) :: ([])
def wsX3_findingOf : List Cond := .code yX3_findingOf cX3_findingOf 3 (some .int) :: ([.fieldLink RX3 18 "DataGuards$Receiver" "counterBefore" "I", .fieldLink RX3 22 "DataGuards$Receiver" "profile" "LDataGuards$Profile;", .methodLink RX3 70 yX2_goingRound, .instanceMethod yX2_goingRound, .selects RX2 yX2_goingRound yX2_goingRound, .initialized RX2, .code yX2_goingRound cX2_goingRound 2 (some .int), .fieldLink RX2 24 "DataGuards$Profile" "counters" "I", .methodLink RX2 36 yJ9_floorMod_7cf53, .static yJ9_floorMod_7cf53, .initialized RJ9, .code yJ9_floorMod_7cf53 cJ9_floorMod_7cf53 3 (some .int), .methodLink RX3 73 yX3_findingOfSteps, .static yX3_findingOfSteps, .initialized RX3, .code yX3_findingOfSteps cX3_findingOfSteps 1 (some .int)] ++ wsX30 ++ wsX20)
def wsX3_endRow_r1 : List Cond := [Cond.fieldLink RX3 12 "DataGuards$Receiver" "row" "LDataGuards$Octets;", Cond.fieldLink RX3 30 "DataGuards$Receiver" "tooMany" "Z", Cond.methodLink RX3 34 yX3_isInError, Cond.instanceMethod yX3_isInError, Cond.selects RX3 yX3_isInError yX3_isInError, Cond.initialized RX3, Cond.code yX3_isInError cX3_isInError 4 (some .boolean), Cond.fieldLink RX3 22 "DataGuards$Receiver" "profile" "LDataGuards$Profile;", Cond.methodLink RX3 51 yX2_checkOctets, Cond.instanceMethod yX2_checkOctets, Cond.selects RX2 yX2_checkOctets yX2_checkOctets, Cond.initialized RX2, Cond.code yX2_checkOctets cX2_checkOctets 1 (some .int), Cond.fieldLink RX2 9 "DataGuards$Profile" "bits" "I", Cond.methodLink RX3 59 yX1_numberAt, Cond.instanceMethod yX1_numberAt, Cond.selects RX1 yX1_numberAt yX1_numberAt, Cond.initialized RX1, Cond.code yX1_numberAt cX1_numberAt 5 (some .int), Cond.methodLink RX1 23 yX1_get, Cond.instanceMethod yX1_get, Cond.selects RX1 yX1_get yX1_get, Cond.code yX1_get cX1_get 2 (some .int), Cond.fieldLink RX1 9 "DataGuards$Octets" "places" "[B"]
def wsX3_endRow_r2 : List Cond := [Cond.methodLink RX1 19 yX1_has, Cond.instanceMethod yX1_has, Cond.selects RX1 yX1_has yX1_has, Cond.code yX1_has cX1_has 2 (some .boolean), Cond.fieldLink RX1 15 "DataGuards$Octets" "length" "I", Cond.methodLink RX3 63 yX2_checkOver, Cond.instanceMethod yX2_checkOver, Cond.selects RX2 yX2_checkOver yX2_checkOver, Cond.code yX2_checkOver cX2_checkOver 6 (some .int), Cond.fieldLink RX2 18 "DataGuards$Profile" "begin" "I", Cond.fieldLink RX2 21 "DataGuards$Profile" "end" "I", Cond.methodLink RX2 42 yX2_shifted, Cond.instanceMethod yX2_shifted, Cond.selects RX2 yX2_shifted yX2_shifted, Cond.code yX2_shifted cX2_shifted 8 (some .int), Cond.fieldLink RX2 15 "DataGuards$Profile" "shape" "I", Cond.methodLink RX2 45 yX1_get, Cond.methodLink RX3 37 yX3_rowCounter, Cond.instanceMethod yX3_rowCounter, Cond.selects RX3 yX3_rowCounter yX3_rowCounter, Cond.code yX3_rowCounter cX3_rowCounter 1 (some .int), Cond.methodLink RX3 41 yX3_findingOf, Cond.instanceMethod yX3_findingOf, Cond.selects RX3 yX3_findingOf yX3_findingOf]
def wsX3_endRow_r3 : List Cond := [Cond.code yX3_findingOf cX3_findingOf 3 (some .int), Cond.fieldLink RX3 18 "DataGuards$Receiver" "counterBefore" "I", Cond.methodLink RX3 70 yX2_goingRound, Cond.instanceMethod yX2_goingRound, Cond.selects RX2 yX2_goingRound yX2_goingRound, Cond.code yX2_goingRound cX2_goingRound 2 (some .int), Cond.fieldLink RX2 24 "DataGuards$Profile" "counters" "I", Cond.methodLink RX2 36 yJ9_floorMod_7cf53, Cond.static yJ9_floorMod_7cf53, Cond.initialized RJ9, Cond.code yJ9_floorMod_7cf53 cJ9_floorMod_7cf53 3 (some .int), Cond.methodLink RX3 73 yX3_findingOfSteps, Cond.static yX3_findingOfSteps, Cond.code yX3_findingOfSteps cX3_findingOfSteps 1 (some .int), Cond.methodLink RX3 45 yX1_clear, Cond.instanceMethod yX1_clear, Cond.selects RX1 yX1_clear yX1_clear, Cond.code yX1_clear cX1_clear 1 none]
def wsX3_endRow : List Cond := .code yX3_endRow cX3_endRow 3 (some .int) :: ((wsX3_endRow_r1 ++ (wsX3_endRow_r2 ++ wsX3_endRow_r3)) ++ wsX30 ++ wsX10 ++ wsX20)
def wsX4_init : List Cond := .code yX4_init cX4_init 2 none :: ([.methodLink RX4 3 objectInit, .instanceMethod objectInit, .code objectInit ⟨#[0xb1]⟩ 1 none, .classLink RX4 9 RX1, .instantiable RX1 2, .initialized RX1, .fieldLink RX4 12 "DataGuards$Sender" "data" "LDataGuards$Octets;", .fieldLink RX4 18 "DataGuards$Sender" "row" "LDataGuards$Octets;", .fieldLink RX4 21 "DataGuards$Sender" "profile" "LDataGuards$Profile;", .instanceMethod yX1_init, .code yX1_init cX1_init 1 none, .methodLink RX1 3 objectInit, .arrayClass .byte, .fieldLink RX1 9 "DataGuards$Octets" "places" "[B"] ++ wsX10 ++ wsX40)
def wsX4_collect : List Cond := .code yX4_collect cX4_collect 2 none :: ([.fieldLink RX4 12 "DataGuards$Sender" "data" "LDataGuards$Octets;", .methodLink RX4 29 yX1_add, .instanceMethod yX1_add, .selects RX1 yX1_add yX1_add, .initialized RX1, .code yX1_add cX1_add 2 (some .boolean), .fieldLink RX1 15 "DataGuards$Octets" "length" "I", .fieldLink RX1 9 "DataGuards$Octets" "places" "[B"] ++ wsX40 ++ wsX10)
def wsX4_plantFlip : List Cond := .code yX4_plantFlip cX4_plantFlip 3 none :: ([.fieldLink RX4 33 "DataGuards$Sender" "flipPlace" "I", .fieldLink RX4 36 "DataGuards$Sender" "flipMask" "I"] ++ wsX40)
def wsX4_plantSkip : List Cond := .code yX4_plantSkip cX4_plantSkip 2 none :: ([.fieldLink RX4 39 "DataGuards$Sender" "skip" "I"] ++ wsX40)
def wsX4_makeRow_r1 : List Cond := [Cond.fieldLink RX4 21 "DataGuards$Sender" "profile" "LDataGuards$Profile;", Cond.fieldLink RX4 42 "DataGuards$Sender" "nextCounter" "I", Cond.fieldLink RX4 39 "DataGuards$Sender" "skip" "I", Cond.fieldLink RX4 18 "DataGuards$Sender" "row" "LDataGuards$Octets;", Cond.fieldLink RX4 12 "DataGuards$Sender" "data" "LDataGuards$Octets;", Cond.fieldLink RX4 33 "DataGuards$Sender" "flipPlace" "I", Cond.fieldLink RX4 36 "DataGuards$Sender" "flipMask" "I", Cond.methodLink RX4 45 yX2_goingRound, Cond.instanceMethod yX2_goingRound, Cond.selects RX2 yX2_goingRound yX2_goingRound, Cond.initialized RX2, Cond.code yX2_goingRound cX2_goingRound 2 (some .int), Cond.fieldLink RX2 24 "DataGuards$Profile" "counters" "I", Cond.methodLink RX2 36 yJ9_floorMod_7cf53, Cond.static yJ9_floorMod_7cf53, Cond.initialized RJ9, Cond.code yJ9_floorMod_7cf53 cJ9_floorMod_7cf53 3 (some .int), Cond.methodLink RX4 51 yX1_clear, Cond.instanceMethod yX1_clear, Cond.selects RX1 yX1_clear yX1_clear, Cond.initialized RX1, Cond.code yX1_clear cX1_clear 1 none, Cond.fieldLink RX1 15 "DataGuards$Octets" "length" "I", Cond.methodLink RX4 57 yX1_addNumber]
def wsX4_makeRow_r2 : List Cond := [Cond.instanceMethod yX1_addNumber, Cond.selects RX1 yX1_addNumber yX1_addNumber, Cond.code yX1_addNumber cX1_addNumber 4 none, Cond.methodLink RX1 27 yX1_add, Cond.instanceMethod yX1_add, Cond.selects RX1 yX1_add yX1_add, Cond.code yX1_add cX1_add 2 (some .boolean), Cond.fieldLink RX1 9 "DataGuards$Octets" "places" "[B", Cond.methodLink RX4 61 yX1_addAll, Cond.instanceMethod yX1_addAll, Cond.selects RX1 yX1_addAll yX1_addAll, Cond.code yX1_addAll cX1_addAll 3 none, Cond.methodLink RX1 23 yX1_get, Cond.instanceMethod yX1_get, Cond.selects RX1 yX1_get yX1_get, Cond.code yX1_get cX1_get 2 (some .int), Cond.methodLink RX1 19 yX1_has, Cond.instanceMethod yX1_has, Cond.selects RX1 yX1_has yX1_has, Cond.code yX1_has cX1_has 2 (some .boolean), Cond.methodLink RX4 65 yX2_checkOver, Cond.instanceMethod yX2_checkOver, Cond.selects RX2 yX2_checkOver yX2_checkOver, Cond.code yX2_checkOver cX2_checkOver 6 (some .int)]
def wsX4_makeRow_r3 : List Cond := [Cond.fieldLink RX2 18 "DataGuards$Profile" "begin" "I", Cond.fieldLink RX2 21 "DataGuards$Profile" "end" "I", Cond.methodLink RX2 42 yX2_shifted, Cond.instanceMethod yX2_shifted, Cond.selects RX2 yX2_shifted yX2_shifted, Cond.code yX2_shifted cX2_shifted 8 (some .int), Cond.fieldLink RX2 9 "DataGuards$Profile" "bits" "I", Cond.fieldLink RX2 15 "DataGuards$Profile" "shape" "I", Cond.methodLink RX2 45 yX1_get, Cond.methodLink RX4 69 yX2_checkOctets, Cond.instanceMethod yX2_checkOctets, Cond.selects RX2 yX2_checkOctets yX2_checkOctets, Cond.code yX2_checkOctets cX2_checkOctets 1 (some .int), Cond.methodLink RX4 73 yX1_flip, Cond.instanceMethod yX1_flip, Cond.selects RX1 yX1_flip yX1_flip, Cond.code yX1_flip cX1_flip 3 none]
def wsX4_makeRow : List Cond := .code yX4_makeRow cX4_makeRow 3 (some .int) :: ((wsX4_makeRow_r1 ++ (wsX4_makeRow_r2 ++ wsX4_makeRow_r3)) ++ wsX40 ++ wsX20 ++ wsX10)
def wsX5_init_r1 : List Cond := [Cond.methodLink RX5 1 objectInit, Cond.instanceMethod objectInit, Cond.code objectInit ⟨#[0xb1]⟩ 1 none, Cond.classLink RX5 13 RX4, Cond.instantiable RX4 7, Cond.initialized RX4, Cond.fieldLink RX5 18 "DataGuards" "sender" "LDataGuards$Sender;", Cond.classLink RX5 24 RX3, Cond.instantiable RX3 4, Cond.initialized RX3, Cond.fieldLink RX5 27 "DataGuards" "receiver" "LDataGuards$Receiver;", Cond.classLink RX5 31 RX0, Cond.instantiable RX0 5, Cond.initialized RX0, Cond.fieldLink RX5 34 "DataGuards" "history" "LDataGuards$History;", Cond.methodLink RX5 7 yX2_numbered, Cond.static yX2_numbered, Cond.initialized RX2, Cond.code yX2_numbered cX2_numbered 1 (some (.object "DataGuards$Profile")), Cond.classLink RX2 10 RX2, Cond.instantiable RX2 6, Cond.constant RX2 30 (65535), Cond.constant RX2 34 (-189989101), Cond.constant RX2 35 (65536)]
def wsX5_init_r2 : List Cond := [Cond.methodLink RX2 31 yX2_init, Cond.instanceMethod yX2_init, Cond.code yX2_init cX2_init 7 none, Cond.methodLink RX2 3 objectInit, Cond.fieldLink RX2 9 "DataGuards$Profile" "bits" "I", Cond.fieldLink RX2 15 "DataGuards$Profile" "shape" "I", Cond.fieldLink RX2 18 "DataGuards$Profile" "begin" "I", Cond.fieldLink RX2 21 "DataGuards$Profile" "end" "I", Cond.fieldLink RX2 24 "DataGuards$Profile" "counters" "I", Cond.fieldLink RX2 27 "DataGuards$Profile" "counterOctets" "I", Cond.methodLink RX5 15 yX4_init, Cond.instanceMethod yX4_init, Cond.code yX4_init cX4_init 2 none, Cond.methodLink RX4 3 objectInit, Cond.classLink RX4 9 RX1, Cond.instantiable RX1 2, Cond.initialized RX1, Cond.fieldLink RX4 12 "DataGuards$Sender" "data" "LDataGuards$Octets;", Cond.fieldLink RX4 18 "DataGuards$Sender" "row" "LDataGuards$Octets;", Cond.fieldLink RX4 21 "DataGuards$Sender" "profile" "LDataGuards$Profile;", Cond.instanceMethod yX1_init, Cond.code yX1_init cX1_init 1 none, Cond.methodLink RX1 3 objectInit, Cond.arrayClass .byte]
def wsX5_init_r3 : List Cond := [Cond.fieldLink RX1 9 "DataGuards$Octets" "places" "[B", Cond.methodLink RX5 26 yX3_init, Cond.instanceMethod yX3_init, Cond.code yX3_init cX3_init 2 none, Cond.methodLink RX3 3 objectInit, Cond.classLink RX3 9 RX1, Cond.fieldLink RX3 12 "DataGuards$Receiver" "row" "LDataGuards$Octets;", Cond.fieldLink RX3 18 "DataGuards$Receiver" "counterBefore" "I", Cond.fieldLink RX3 22 "DataGuards$Receiver" "profile" "LDataGuards$Profile;", Cond.instanceMethod yX0_init, Cond.code yX0_init cX0_init 1 none, Cond.methodLink RX0 3 objectInit, Cond.arrayClass .int, Cond.fieldLink RX0 9 "DataGuards$History" "findings" "[I", Cond.fieldLink RX0 15 "DataGuards$History" "joined" "I"]
def wsX5_init : List Cond := .code yX5_init cX5_init 3 none :: ((wsX5_init_r1 ++ (wsX5_init_r2 ++ wsX5_init_r3)) ++ wsX40 ++ wsX50 ++ wsX30 ++ wsX00 ++ wsX20 ++ wsX10)
def wsX5_octet : List Cond := .code yX5_octet cX5_octet 2 none :: ([.fieldLink RX5 18 "DataGuards" "sender" "LDataGuards$Sender;", .methodLink RX5 38 yX4_collect, .instanceMethod yX4_collect, .selects RX4 yX4_collect yX4_collect, .initialized RX4, .code yX4_collect cX4_collect 2 none, .fieldLink RX4 12 "DataGuards$Sender" "data" "LDataGuards$Octets;", .methodLink RX4 29 yX1_add, .instanceMethod yX1_add, .selects RX1 yX1_add yX1_add, .initialized RX1, .code yX1_add cX1_add 2 (some .boolean), .fieldLink RX1 15 "DataGuards$Octets" "length" "I", .fieldLink RX1 9 "DataGuards$Octets" "places" "[B"] ++ wsX50 ++ wsX40 ++ wsX10)
def wsX5_isIdentity : List Cond := .code yX5_isIdentity cX5_isIdentity 1 (some .boolean) :: ([.constant RX5 116 (65535)])
def wsX5_protect_r1 : List Cond := [Cond.fieldLink RX5 18 "DataGuards" "sender" "LDataGuards$Sender;", Cond.methodLink RX5 42 yX5_isIdentity, Cond.static yX5_isIdentity, Cond.initialized RX5, Cond.code yX5_isIdentity cX5_isIdentity 1 (some .boolean), Cond.constant RX5 116 (65535), Cond.methodLink RX5 46 yX4_makeRow, Cond.instanceMethod yX4_makeRow, Cond.selects RX4 yX4_makeRow yX4_makeRow, Cond.initialized RX4, Cond.code yX4_makeRow cX4_makeRow 3 (some .int), Cond.fieldLink RX4 21 "DataGuards$Sender" "profile" "LDataGuards$Profile;", Cond.fieldLink RX4 42 "DataGuards$Sender" "nextCounter" "I", Cond.fieldLink RX4 39 "DataGuards$Sender" "skip" "I", Cond.fieldLink RX4 18 "DataGuards$Sender" "row" "LDataGuards$Octets;", Cond.fieldLink RX4 12 "DataGuards$Sender" "data" "LDataGuards$Octets;", Cond.fieldLink RX4 33 "DataGuards$Sender" "flipPlace" "I", Cond.fieldLink RX4 36 "DataGuards$Sender" "flipMask" "I", Cond.methodLink RX4 45 yX2_goingRound, Cond.instanceMethod yX2_goingRound, Cond.selects RX2 yX2_goingRound yX2_goingRound, Cond.initialized RX2, Cond.code yX2_goingRound cX2_goingRound 2 (some .int), Cond.fieldLink RX2 24 "DataGuards$Profile" "counters" "I"]
def wsX5_protect_r2 : List Cond := [Cond.methodLink RX2 36 yJ9_floorMod_7cf53, Cond.static yJ9_floorMod_7cf53, Cond.initialized RJ9, Cond.code yJ9_floorMod_7cf53 cJ9_floorMod_7cf53 3 (some .int), Cond.methodLink RX4 51 yX1_clear, Cond.instanceMethod yX1_clear, Cond.selects RX1 yX1_clear yX1_clear, Cond.initialized RX1, Cond.code yX1_clear cX1_clear 1 none, Cond.fieldLink RX1 15 "DataGuards$Octets" "length" "I", Cond.methodLink RX4 57 yX1_addNumber, Cond.instanceMethod yX1_addNumber, Cond.selects RX1 yX1_addNumber yX1_addNumber, Cond.code yX1_addNumber cX1_addNumber 4 none, Cond.methodLink RX1 27 yX1_add, Cond.instanceMethod yX1_add, Cond.selects RX1 yX1_add yX1_add, Cond.code yX1_add cX1_add 2 (some .boolean), Cond.fieldLink RX1 9 "DataGuards$Octets" "places" "[B", Cond.methodLink RX4 61 yX1_addAll, Cond.instanceMethod yX1_addAll, Cond.selects RX1 yX1_addAll yX1_addAll, Cond.code yX1_addAll cX1_addAll 3 none, Cond.methodLink RX1 23 yX1_get]
def wsX5_protect_r3 : List Cond := [Cond.instanceMethod yX1_get, Cond.selects RX1 yX1_get yX1_get, Cond.code yX1_get cX1_get 2 (some .int), Cond.methodLink RX1 19 yX1_has, Cond.instanceMethod yX1_has, Cond.selects RX1 yX1_has yX1_has, Cond.code yX1_has cX1_has 2 (some .boolean), Cond.methodLink RX4 65 yX2_checkOver, Cond.instanceMethod yX2_checkOver, Cond.selects RX2 yX2_checkOver yX2_checkOver, Cond.code yX2_checkOver cX2_checkOver 6 (some .int), Cond.fieldLink RX2 18 "DataGuards$Profile" "begin" "I", Cond.fieldLink RX2 21 "DataGuards$Profile" "end" "I", Cond.methodLink RX2 42 yX2_shifted, Cond.instanceMethod yX2_shifted, Cond.selects RX2 yX2_shifted yX2_shifted, Cond.code yX2_shifted cX2_shifted 8 (some .int), Cond.fieldLink RX2 9 "DataGuards$Profile" "bits" "I", Cond.fieldLink RX2 15 "DataGuards$Profile" "shape" "I", Cond.methodLink RX2 45 yX1_get, Cond.methodLink RX4 69 yX2_checkOctets, Cond.instanceMethod yX2_checkOctets, Cond.selects RX2 yX2_checkOctets yX2_checkOctets, Cond.code yX2_checkOctets cX2_checkOctets 1 (some .int)]
def wsX5_protect_r4 : List Cond := [Cond.methodLink RX4 73 yX1_flip, Cond.instanceMethod yX1_flip, Cond.selects RX1 yX1_flip yX1_flip, Cond.code yX1_flip cX1_flip 3 none]
def wsX5_protect : List Cond := .code yX5_protect cX5_protect 2 (some .int) :: ((wsX5_protect_r1 ++ (wsX5_protect_r2 ++ (wsX5_protect_r3 ++ wsX5_protect_r4))) ++ wsX50 ++ wsX40 ++ wsX20 ++ wsX10)
def wsX5_out : List Cond := .code yX5_out cX5_out 2 (some .byte) :: ([.fieldLink RX5 18 "DataGuards" "sender" "LDataGuards$Sender;", .classLink RX5 59 RJx00060, .instantiable RJx00060 6, .initialized RJx00060, .methodLink RX5 54 yX1_has, .instanceMethod yX1_has, .selects RX1 yX1_has yX1_has, .initialized RX1, .code yX1_has cX1_has 2 (some .boolean), .fieldLink RX1 15 "DataGuards$Octets" "length" "I", .fieldLink RX1 9 "DataGuards$Octets" "places" "[B", .methodLink RX5 66 yX1_get, .instanceMethod yX1_get, .selects RX1 yX1_get yX1_get, .code yX1_get cX1_get 2 (some .int), .methodLink RX1 19 yX1_has] ++ wsX50 ++ wsX40 ++ wsJx000600 ++ wsX10)
def wsX5_endOfRow_r1 : List Cond := [Cond.fieldLink RX5 27 "DataGuards" "receiver" "LDataGuards$Receiver;", Cond.fieldLink RX5 34 "DataGuards" "history" "LDataGuards$History;", Cond.fieldLink RX5 94 "DataGuards" "timeTold" "J", Cond.fieldLink RX5 98 "DataGuards" "timeOfGoodRow" "J", Cond.methodLink RX5 107 yX3_endRow, Cond.instanceMethod yX3_endRow, Cond.selects RX3 yX3_endRow yX3_endRow, Cond.initialized RX3, Cond.code yX3_endRow cX3_endRow 3 (some .int), Cond.fieldLink RX3 12 "DataGuards$Receiver" "row" "LDataGuards$Octets;", Cond.fieldLink RX3 30 "DataGuards$Receiver" "tooMany" "Z", Cond.methodLink RX3 34 yX3_isInError, Cond.instanceMethod yX3_isInError, Cond.selects RX3 yX3_isInError yX3_isInError, Cond.code yX3_isInError cX3_isInError 4 (some .boolean), Cond.fieldLink RX3 22 "DataGuards$Receiver" "profile" "LDataGuards$Profile;", Cond.methodLink RX3 51 yX2_checkOctets, Cond.instanceMethod yX2_checkOctets, Cond.selects RX2 yX2_checkOctets yX2_checkOctets, Cond.initialized RX2, Cond.code yX2_checkOctets cX2_checkOctets 1 (some .int), Cond.fieldLink RX2 9 "DataGuards$Profile" "bits" "I", Cond.methodLink RX3 59 yX1_numberAt, Cond.instanceMethod yX1_numberAt]
def wsX5_endOfRow_r2 : List Cond := [Cond.selects RX1 yX1_numberAt yX1_numberAt, Cond.initialized RX1, Cond.code yX1_numberAt cX1_numberAt 5 (some .int), Cond.methodLink RX1 23 yX1_get, Cond.instanceMethod yX1_get, Cond.selects RX1 yX1_get yX1_get, Cond.code yX1_get cX1_get 2 (some .int), Cond.fieldLink RX1 9 "DataGuards$Octets" "places" "[B", Cond.methodLink RX1 19 yX1_has, Cond.instanceMethod yX1_has, Cond.selects RX1 yX1_has yX1_has, Cond.code yX1_has cX1_has 2 (some .boolean), Cond.fieldLink RX1 15 "DataGuards$Octets" "length" "I", Cond.methodLink RX3 63 yX2_checkOver, Cond.instanceMethod yX2_checkOver, Cond.selects RX2 yX2_checkOver yX2_checkOver, Cond.code yX2_checkOver cX2_checkOver 6 (some .int), Cond.fieldLink RX2 18 "DataGuards$Profile" "begin" "I", Cond.fieldLink RX2 21 "DataGuards$Profile" "end" "I", Cond.methodLink RX2 42 yX2_shifted, Cond.instanceMethod yX2_shifted, Cond.selects RX2 yX2_shifted yX2_shifted, Cond.code yX2_shifted cX2_shifted 8 (some .int), Cond.fieldLink RX2 15 "DataGuards$Profile" "shape" "I"]
def wsX5_endOfRow_r3 : List Cond := [Cond.methodLink RX2 45 yX1_get, Cond.methodLink RX3 37 yX3_rowCounter, Cond.instanceMethod yX3_rowCounter, Cond.selects RX3 yX3_rowCounter yX3_rowCounter, Cond.code yX3_rowCounter cX3_rowCounter 1 (some .int), Cond.methodLink RX3 41 yX3_findingOf, Cond.instanceMethod yX3_findingOf, Cond.selects RX3 yX3_findingOf yX3_findingOf, Cond.code yX3_findingOf cX3_findingOf 3 (some .int), Cond.fieldLink RX3 18 "DataGuards$Receiver" "counterBefore" "I", Cond.methodLink RX3 70 yX2_goingRound, Cond.instanceMethod yX2_goingRound, Cond.selects RX2 yX2_goingRound yX2_goingRound, Cond.code yX2_goingRound cX2_goingRound 2 (some .int), Cond.fieldLink RX2 24 "DataGuards$Profile" "counters" "I", Cond.methodLink RX2 36 yJ9_floorMod_7cf53, Cond.static yJ9_floorMod_7cf53, Cond.initialized RJ9, Cond.code yJ9_floorMod_7cf53 cJ9_floorMod_7cf53 3 (some .int), Cond.methodLink RX3 73 yX3_findingOfSteps, Cond.static yX3_findingOfSteps, Cond.code yX3_findingOfSteps cX3_findingOfSteps 1 (some .int), Cond.methodLink RX3 45 yX1_clear, Cond.instanceMethod yX1_clear]
def wsX5_endOfRow_r4 : List Cond := [Cond.selects RX1 yX1_clear yX1_clear, Cond.code yX1_clear cX1_clear 1 none, Cond.methodLink RX5 110 yX0_add, Cond.instanceMethod yX0_add, Cond.selects RX0 yX0_add yX0_add, Cond.initialized RX0, Cond.code yX0_add cX0_add 3 none, Cond.fieldLink RX0 9 "DataGuards$History" "findings" "[I", Cond.fieldLink RX0 19 "DataGuards$History" "rows" "I", Cond.methodLink RX0 22 Lib.Math.min.name, Cond.static Lib.Math.min.name, Cond.initialized "java/lang/Math", Cond.code Lib.Math.min.name Lib.Math.min.code 2 (some .int), Cond.fieldLink RX0 32 "DataGuards$History" "goodRows" "I", Cond.fieldLink RX0 35 "DataGuards$History" "everFoundBits" "I", Cond.fieldLink RX0 15 "DataGuards$History" "joined" "I", Cond.static yX5_sideOf, Cond.initialized RX5, Cond.code yX5_sideOf cX5_sideOf 1 (some .int), Cond.methodLink RX0 38 yX0_joinedAfter, Cond.instanceMethod yX0_joinedAfter, Cond.selects RX0 yX0_joinedAfter yX0_joinedAfter, Cond.code yX0_joinedAfter cX0_joinedAfter 4 (some .int), Cond.methodLink RX0 41 yX0_countOfLast]
def wsX5_endOfRow_r5 : List Cond := [Cond.instanceMethod yX0_countOfLast, Cond.selects RX0 yX0_countOfLast yX0_countOfLast, Cond.code yX0_countOfLast cX0_countOfLast 5 (some .int), Cond.methodLink RX0 44 yX0_finding, Cond.instanceMethod yX0_finding, Cond.selects RX0 yX0_finding yX0_finding, Cond.code yX0_finding cX0_finding 2 (some .int), Cond.methodLink RX5 113 yX5_sideOf]
def wsX5_endOfRow : List Cond := .code yX5_endOfRow cX5_endOfRow 3 (some .int) :: ((wsX5_endOfRow_r1 ++ (wsX5_endOfRow_r2 ++ (wsX5_endOfRow_r3 ++ (wsX5_endOfRow_r4 ++ wsX5_endOfRow_r5)))) ++ wsX50 ++ wsX30 ++ wsX10 ++ wsX20 ++ wsX00)
def wsX5_check_r1 : List Cond := [Cond.fieldLink RX5 27 "DataGuards" "receiver" "LDataGuards$Receiver;", Cond.methodLink RX5 42 yX5_isIdentity, Cond.static yX5_isIdentity, Cond.initialized RX5, Cond.code yX5_isIdentity cX5_isIdentity 1 (some .boolean), Cond.constant RX5 116 (65535), Cond.methodLink RX5 69 yX3_collect, Cond.instanceMethod yX3_collect, Cond.selects RX3 yX3_collect yX3_collect, Cond.initialized RX3, Cond.code yX3_collect cX3_collect 2 none, Cond.fieldLink RX3 12 "DataGuards$Receiver" "row" "LDataGuards$Octets;", Cond.fieldLink RX3 30 "DataGuards$Receiver" "tooMany" "Z", Cond.methodLink RX3 26 yX1_add, Cond.instanceMethod yX1_add, Cond.selects RX1 yX1_add yX1_add, Cond.initialized RX1, Cond.code yX1_add cX1_add 2 (some .boolean), Cond.fieldLink RX1 15 "DataGuards$Octets" "length" "I", Cond.fieldLink RX1 9 "DataGuards$Octets" "places" "[B", Cond.methodLink RX5 70 yX5_endOfRow, Cond.instanceMethod yX5_endOfRow, Cond.selects RX5 yX5_endOfRow yX5_endOfRow, Cond.code yX5_endOfRow cX5_endOfRow 3 (some .int)]
def wsX5_check_r2 : List Cond := [Cond.fieldLink RX5 34 "DataGuards" "history" "LDataGuards$History;", Cond.fieldLink RX5 94 "DataGuards" "timeTold" "J", Cond.fieldLink RX5 98 "DataGuards" "timeOfGoodRow" "J", Cond.methodLink RX5 107 yX3_endRow, Cond.instanceMethod yX3_endRow, Cond.selects RX3 yX3_endRow yX3_endRow, Cond.code yX3_endRow cX3_endRow 3 (some .int), Cond.methodLink RX3 34 yX3_isInError, Cond.instanceMethod yX3_isInError, Cond.selects RX3 yX3_isInError yX3_isInError, Cond.code yX3_isInError cX3_isInError 4 (some .boolean), Cond.fieldLink RX3 22 "DataGuards$Receiver" "profile" "LDataGuards$Profile;", Cond.methodLink RX3 51 yX2_checkOctets, Cond.instanceMethod yX2_checkOctets, Cond.selects RX2 yX2_checkOctets yX2_checkOctets, Cond.initialized RX2, Cond.code yX2_checkOctets cX2_checkOctets 1 (some .int), Cond.fieldLink RX2 9 "DataGuards$Profile" "bits" "I", Cond.methodLink RX3 59 yX1_numberAt, Cond.instanceMethod yX1_numberAt, Cond.selects RX1 yX1_numberAt yX1_numberAt, Cond.code yX1_numberAt cX1_numberAt 5 (some .int), Cond.methodLink RX1 23 yX1_get, Cond.instanceMethod yX1_get]
def wsX5_check_r3 : List Cond := [Cond.selects RX1 yX1_get yX1_get, Cond.code yX1_get cX1_get 2 (some .int), Cond.methodLink RX1 19 yX1_has, Cond.instanceMethod yX1_has, Cond.selects RX1 yX1_has yX1_has, Cond.code yX1_has cX1_has 2 (some .boolean), Cond.methodLink RX3 63 yX2_checkOver, Cond.instanceMethod yX2_checkOver, Cond.selects RX2 yX2_checkOver yX2_checkOver, Cond.code yX2_checkOver cX2_checkOver 6 (some .int), Cond.fieldLink RX2 18 "DataGuards$Profile" "begin" "I", Cond.fieldLink RX2 21 "DataGuards$Profile" "end" "I", Cond.methodLink RX2 42 yX2_shifted, Cond.instanceMethod yX2_shifted, Cond.selects RX2 yX2_shifted yX2_shifted, Cond.code yX2_shifted cX2_shifted 8 (some .int), Cond.fieldLink RX2 15 "DataGuards$Profile" "shape" "I", Cond.methodLink RX2 45 yX1_get, Cond.methodLink RX3 37 yX3_rowCounter, Cond.instanceMethod yX3_rowCounter, Cond.selects RX3 yX3_rowCounter yX3_rowCounter, Cond.code yX3_rowCounter cX3_rowCounter 1 (some .int), Cond.methodLink RX3 41 yX3_findingOf, Cond.instanceMethod yX3_findingOf]
def wsX5_check_r4 : List Cond := [Cond.selects RX3 yX3_findingOf yX3_findingOf, Cond.code yX3_findingOf cX3_findingOf 3 (some .int), Cond.fieldLink RX3 18 "DataGuards$Receiver" "counterBefore" "I", Cond.methodLink RX3 70 yX2_goingRound, Cond.instanceMethod yX2_goingRound, Cond.selects RX2 yX2_goingRound yX2_goingRound, Cond.code yX2_goingRound cX2_goingRound 2 (some .int), Cond.fieldLink RX2 24 "DataGuards$Profile" "counters" "I", Cond.methodLink RX2 36 yJ9_floorMod_7cf53, Cond.static yJ9_floorMod_7cf53, Cond.initialized RJ9, Cond.code yJ9_floorMod_7cf53 cJ9_floorMod_7cf53 3 (some .int), Cond.methodLink RX3 73 yX3_findingOfSteps, Cond.static yX3_findingOfSteps, Cond.code yX3_findingOfSteps cX3_findingOfSteps 1 (some .int), Cond.methodLink RX3 45 yX1_clear, Cond.instanceMethod yX1_clear, Cond.selects RX1 yX1_clear yX1_clear, Cond.code yX1_clear cX1_clear 1 none, Cond.methodLink RX5 110 yX0_add, Cond.instanceMethod yX0_add, Cond.selects RX0 yX0_add yX0_add, Cond.initialized RX0, Cond.code yX0_add cX0_add 3 none]
def wsX5_check_r5 : List Cond := [Cond.fieldLink RX0 9 "DataGuards$History" "findings" "[I", Cond.fieldLink RX0 19 "DataGuards$History" "rows" "I", Cond.methodLink RX0 22 Lib.Math.min.name, Cond.static Lib.Math.min.name, Cond.initialized "java/lang/Math", Cond.code Lib.Math.min.name Lib.Math.min.code 2 (some .int), Cond.fieldLink RX0 32 "DataGuards$History" "goodRows" "I", Cond.fieldLink RX0 35 "DataGuards$History" "everFoundBits" "I", Cond.fieldLink RX0 15 "DataGuards$History" "joined" "I", Cond.static yX5_sideOf, Cond.code yX5_sideOf cX5_sideOf 1 (some .int), Cond.methodLink RX0 38 yX0_joinedAfter, Cond.instanceMethod yX0_joinedAfter, Cond.selects RX0 yX0_joinedAfter yX0_joinedAfter, Cond.code yX0_joinedAfter cX0_joinedAfter 4 (some .int), Cond.methodLink RX0 41 yX0_countOfLast, Cond.instanceMethod yX0_countOfLast, Cond.selects RX0 yX0_countOfLast yX0_countOfLast, Cond.code yX0_countOfLast cX0_countOfLast 5 (some .int), Cond.methodLink RX0 44 yX0_finding, Cond.instanceMethod yX0_finding, Cond.selects RX0 yX0_finding yX0_finding, Cond.code yX0_finding cX0_finding 2 (some .int), Cond.methodLink RX5 113 yX5_sideOf]
def wsX5_check : List Cond := .code yX5_check cX5_check 4 (some .int) :: ((wsX5_check_r1 ++ (wsX5_check_r2 ++ (wsX5_check_r3 ++ (wsX5_check_r4 ++ wsX5_check_r5)))) ++ wsX50 ++ wsX30 ++ wsX10 ++ wsX20 ++ wsX00)
def wsX5_counter : List Cond := .code yX5_counter cX5_counter 1 (some .int) :: ([.fieldLink RX5 18 "DataGuards" "sender" "LDataGuards$Sender;"] ++ wsX50 ++ wsX40)
def wsX5_state : List Cond := .code yX5_state cX5_state 1 (some .int) :: ([.fieldLink RX5 34 "DataGuards" "history" "LDataGuards$History;"] ++ wsX50 ++ wsX00)
def wsX5_span : List Cond := .code yX5_span cX5_span 2 (some .int) :: ([.fieldLink RX5 34 "DataGuards" "history" "LDataGuards$History;", .methodLink RX5 80 yX0_finding, .instanceMethod yX0_finding, .selects RX0 yX0_finding yX0_finding, .initialized RX0, .code yX0_finding cX0_finding 2 (some .int), .fieldLink RX0 19 "DataGuards$History" "rows" "I", .fieldLink RX0 9 "DataGuards$History" "findings" "[I"] ++ wsX50 ++ wsX00)
def wsX5_plant : List Cond := .code yX5_plant cX5_plant 4 (some .int) :: ([.fieldLink RX5 18 "DataGuards" "sender" "LDataGuards$Sender;", .methodLink RX5 83 yX4_plantFlip, .instanceMethod yX4_plantFlip, .selects RX4 yX4_plantFlip yX4_plantFlip, .initialized RX4, .code yX4_plantFlip cX4_plantFlip 3 none, .fieldLink RX4 33 "DataGuards$Sender" "flipPlace" "I", .fieldLink RX4 36 "DataGuards$Sender" "flipMask" "I", .methodLink RX5 87 yX4_plantSkip, .instanceMethod yX4_plantSkip, .selects RX4 yX4_plantSkip yX4_plantSkip, .code yX4_plantSkip cX4_plantSkip 2 none, .fieldLink RX4 39 "DataGuards$Sender" "skip" "I"] ++ wsX50 ++ wsX40)
def wsX5_valid : List Cond := .code yX5_valid cX5_valid 1 (some .int) :: ([.fieldLink RX5 34 "DataGuards" "history" "LDataGuards$History;"] ++ wsX50 ++ wsX00)
def wsX5_react : List Cond := .code yX5_react cX5_react 3 (some .int) :: ([.fieldLink RX5 94 "DataGuards" "timeTold" "J", .fieldLink RX5 98 "DataGuards" "timeOfGoodRow" "J", .constantLong RX5 101 (100), .fieldLink RX5 34 "DataGuards" "history" "LDataGuards$History;"] ++ wsX50 ++ wsX00)
def wsX5_told : List Cond := .code yX5_told cX5_told 2 (some .boolean) :: ([.fieldLink RX5 34 "DataGuards" "history" "LDataGuards$History;", .methodLink RX5 103 yX0_everFound, .instanceMethod yX0_everFound, .selects RX0 yX0_everFound yX0_everFound, .initialized RX0, .code yX0_everFound cX0_everFound 2 (some .boolean), .fieldLink RX0 35 "DataGuards$History" "everFoundBits" "I"] ++ wsX50 ++ wsX00)
def wsX5_polynomial : List Cond := .code yX5_polynomial cX5_polynomial 2 (some .int) :: ([.constant RX5 106 (-189989101)])
def wsX6_init : List Cond := .code yX6_init cX6_init 2 none :: ([.methodLink RX6 1 objectInit, .instanceMethod objectInit, .code objectInit ⟨#[0xb1]⟩ 1 none, .arrayClass .int, .fieldLink RX6 7 "DataGuardsModel" "data" "[I", .fieldLink RX6 13 "DataGuardsModel" "row" "[I", .fieldLink RX6 16 "DataGuardsModel" "flipAt" "I", .fieldLink RX6 20 "DataGuardsModel" "taken" "[I", .fieldLink RX6 23 "DataGuardsModel" "before" "I", .fieldLink RX6 26 "DataGuardsModel" "last" "[I", .arrayClass .boolean, .fieldLink RX6 29 "DataGuardsModel" "told" "[Z", .fieldLink RX6 33 "DataGuardsModel" "profile" "I", .fieldLink RX6 36 "DataGuardsModel" "bits" "I", .constant RX6 39 (65536), .fieldLink RX6 40 "DataGuardsModel" "counters" "I", .fieldLink RX6 43 "DataGuardsModel" "head" "I"] ++ wsX60)
def wsX6_thrown : List Cond := .code yX6_thrown cX6_thrown 1 (some .int) :: ([.fieldLink RX6 46 "DataGuardsModel" "code" "I"] ++ wsX60)
def wsX6_add : List Cond := .code yX6_add cX6_add 13 (some .long) :: ([.fieldLink RX6 36 "DataGuardsModel" "bits" "I", .fieldLink RX6 33 "DataGuardsModel" "profile" "I", .constantLong RX6 49 (29), .constantLong RX6 51 (4129), .constantLong RX6 53 (4104978195), .constantLong RX6 55 (2)] ++ wsX60)
def wsX6_begin : List Cond := .code yX6_begin cX6_begin 4 (some .long) :: ([.fieldLink RX6 36 "DataGuardsModel" "bits" "I", .methodLink RX6 57 yX6_add, .instanceMethod yX6_add, .selects RX6 yX6_add yX6_add, .initialized RX6, .code yX6_add cX6_add 13 (some .long), .fieldLink RX6 33 "DataGuardsModel" "profile" "I", .constantLong RX6 49 (29), .constantLong RX6 51 (4129), .constantLong RX6 53 (4104978195), .constantLong RX6 55 (2)] ++ wsX60)
def wsX6_end : List Cond := .code yX6_end cX6_end 3 (some .long) :: ([.fieldLink RX6 33 "DataGuardsModel" "profile" "I", .fieldLink RX6 36 "DataGuardsModel" "bits" "I"] ++ wsX60)
def wsX6_octet : List Cond := .code yX6_octet cX6_octet 2 none :: ([.fieldLink RX6 46 "DataGuardsModel" "code" "I", .fieldLink RX6 61 "DataGuardsModel" "given" "I", .fieldLink RX6 7 "DataGuardsModel" "data" "[I"] ++ wsX60)
def wsX6_protect_r1 : List Cond := [Cond.fieldLink RX6 46 "DataGuardsModel" "code" "I", Cond.constant RX6 64 (65535), Cond.fieldLink RX6 65 "DataGuardsModel" "counter" "I", Cond.fieldLink RX6 68 "DataGuardsModel" "skip" "I", Cond.fieldLink RX6 40 "DataGuardsModel" "counters" "I", Cond.fieldLink RX6 75 "DataGuardsModel" "made" "I", Cond.fieldLink RX6 43 "DataGuardsModel" "head" "I", Cond.fieldLink RX6 61 "DataGuardsModel" "given" "I", Cond.fieldLink RX6 13 "DataGuardsModel" "row" "[I", Cond.fieldLink RX6 7 "DataGuardsModel" "data" "[I", Cond.fieldLink RX6 36 "DataGuardsModel" "bits" "I", Cond.constantLong RX6 82 (255), Cond.fieldLink RX6 16 "DataGuardsModel" "flipAt" "I", Cond.fieldLink RX6 84 "DataGuardsModel" "flip" "I", Cond.methodLink RX6 71 yX6_begin, Cond.instanceMethod yX6_begin, Cond.selects RX6 yX6_begin yX6_begin, Cond.initialized RX6, Cond.code yX6_begin cX6_begin 4 (some .long), Cond.methodLink RX6 57 yX6_add, Cond.instanceMethod yX6_add, Cond.selects RX6 yX6_add yX6_add, Cond.code yX6_add cX6_add 13 (some .long), Cond.fieldLink RX6 33 "DataGuardsModel" "profile" "I"]
def wsX6_protect_r2 : List Cond := [Cond.constantLong RX6 49 (29), Cond.constantLong RX6 51 (4129), Cond.constantLong RX6 53 (4104978195), Cond.constantLong RX6 55 (2), Cond.methodLink RX6 78 yX6_end, Cond.instanceMethod yX6_end, Cond.selects RX6 yX6_end yX6_end, Cond.code yX6_end cX6_end 3 (some .long)]
def wsX6_protect : List Cond := .code yX6_protect cX6_protect 7 (some .int) :: ((wsX6_protect_r1 ++ wsX6_protect_r2) ++ wsX60)
def wsX6_out : List Cond := .code yX6_out cX6_out 2 (some .byte) :: ([.fieldLink RX6 75 "DataGuardsModel" "made" "I", .fieldLink RX6 46 "DataGuardsModel" "code" "I", .fieldLink RX6 13 "DataGuardsModel" "row" "[I"] ++ wsX60)
def wsX6_counter : List Cond := .code yX6_counter cX6_counter 1 (some .int) :: ([.fieldLink RX6 46 "DataGuardsModel" "code" "I", .fieldLink RX6 65 "DataGuardsModel" "counter" "I"] ++ wsX60)
def wsX6_plant : List Cond := .code yX6_plant cX6_plant 4 (some .int) :: ([.fieldLink RX6 46 "DataGuardsModel" "code" "I", .fieldLink RX6 16 "DataGuardsModel" "flipAt" "I", .fieldLink RX6 84 "DataGuardsModel" "flip" "I", .fieldLink RX6 68 "DataGuardsModel" "skip" "I"] ++ wsX60)
def wsX6_find_r1 : List Cond := [Cond.fieldLink RX6 36 "DataGuardsModel" "bits" "I", Cond.fieldLink RX6 87 "DataGuardsModel" "come" "I", Cond.fieldLink RX6 43 "DataGuardsModel" "head" "I", Cond.fieldLink RX6 20 "DataGuardsModel" "taken" "[I", Cond.constantLong RX6 90 (256), Cond.fieldLink RX6 40 "DataGuardsModel" "counters" "I", Cond.fieldLink RX6 23 "DataGuardsModel" "before" "I", Cond.methodLink RX6 71 yX6_begin, Cond.instanceMethod yX6_begin, Cond.selects RX6 yX6_begin yX6_begin, Cond.initialized RX6, Cond.code yX6_begin cX6_begin 4 (some .long), Cond.methodLink RX6 57 yX6_add, Cond.instanceMethod yX6_add, Cond.selects RX6 yX6_add yX6_add, Cond.code yX6_add cX6_add 13 (some .long), Cond.fieldLink RX6 33 "DataGuardsModel" "profile" "I", Cond.constantLong RX6 49 (29), Cond.constantLong RX6 51 (4129), Cond.constantLong RX6 53 (4104978195), Cond.constantLong RX6 55 (2), Cond.methodLink RX6 78 yX6_end, Cond.instanceMethod yX6_end, Cond.selects RX6 yX6_end yX6_end]
def wsX6_find_r2 : List Cond := [Cond.code yX6_end cX6_end 3 (some .long)]
def wsX6_find : List Cond := .code yX6_find cX6_find 11 (some .int) :: ((wsX6_find_r1 ++ wsX6_find_r2) ++ wsX60)
def wsX6_good : List Cond := .code yX6_good cX6_good 1 (some .boolean) :: ([])
def wsX6_check_r1 : List Cond := [Cond.fieldLink RX6 46 "DataGuardsModel" "code" "I", Cond.constant RX6 64 (65535), Cond.fieldLink RX6 87 "DataGuardsModel" "come" "I", Cond.fieldLink RX6 20 "DataGuardsModel" "taken" "[I", Cond.fieldLink RX6 29 "DataGuardsModel" "told" "[Z", Cond.fieldLink RX6 100 "DataGuardsModel" "valid" "I", Cond.fieldLink RX6 103 "DataGuardsModel" "now" "J", Cond.fieldLink RX6 107 "DataGuardsModel" "since" "J", Cond.fieldLink RX6 110 "DataGuardsModel" "many" "I", Cond.fieldLink RX6 26 "DataGuardsModel" "last" "[I", Cond.fieldLink RX6 113 "DataGuardsModel" "joined" "I", Cond.methodLink RX6 92 yX6_find, Cond.instanceMethod yX6_find, Cond.selects RX6 yX6_find yX6_find, Cond.initialized RX6, Cond.code yX6_find cX6_find 11 (some .int), Cond.fieldLink RX6 36 "DataGuardsModel" "bits" "I", Cond.fieldLink RX6 43 "DataGuardsModel" "head" "I", Cond.constantLong RX6 90 (256), Cond.fieldLink RX6 40 "DataGuardsModel" "counters" "I", Cond.fieldLink RX6 23 "DataGuardsModel" "before" "I", Cond.methodLink RX6 71 yX6_begin, Cond.instanceMethod yX6_begin, Cond.selects RX6 yX6_begin yX6_begin]
def wsX6_check_r2 : List Cond := [Cond.code yX6_begin cX6_begin 4 (some .long), Cond.methodLink RX6 57 yX6_add, Cond.instanceMethod yX6_add, Cond.selects RX6 yX6_add yX6_add, Cond.code yX6_add cX6_add 13 (some .long), Cond.fieldLink RX6 33 "DataGuardsModel" "profile" "I", Cond.constantLong RX6 49 (29), Cond.constantLong RX6 51 (4129), Cond.constantLong RX6 53 (4104978195), Cond.constantLong RX6 55 (2), Cond.methodLink RX6 78 yX6_end, Cond.instanceMethod yX6_end, Cond.selects RX6 yX6_end yX6_end, Cond.code yX6_end cX6_end 3 (some .long), Cond.methodLink RX6 96 yX6_good, Cond.static yX6_good, Cond.code yX6_good cX6_good 1 (some .boolean)]
def wsX6_check : List Cond := .code yX6_check cX6_check 8 (some .int) :: ((wsX6_check_r1 ++ wsX6_check_r2) ++ wsX60)
def wsX6_state : List Cond := .code yX6_state cX6_state 1 (some .int) :: ([.fieldLink RX6 46 "DataGuardsModel" "code" "I", .fieldLink RX6 113 "DataGuardsModel" "joined" "I"] ++ wsX60)
def wsX6_span : List Cond := .code yX6_span cX6_span 2 (some .int) :: ([.fieldLink RX6 46 "DataGuardsModel" "code" "I", .fieldLink RX6 110 "DataGuardsModel" "many" "I", .fieldLink RX6 26 "DataGuardsModel" "last" "[I"] ++ wsX60)
def wsX6_valid : List Cond := .code yX6_valid cX6_valid 1 (some .int) :: ([.fieldLink RX6 46 "DataGuardsModel" "code" "I", .fieldLink RX6 100 "DataGuardsModel" "valid" "I"] ++ wsX60)
def wsX6_react : List Cond := .code yX6_react cX6_react 3 (some .int) :: ([.fieldLink RX6 46 "DataGuardsModel" "code" "I", .fieldLink RX6 103 "DataGuardsModel" "now" "J", .fieldLink RX6 113 "DataGuardsModel" "joined" "I", .fieldLink RX6 107 "DataGuardsModel" "since" "J", .constantLong RX6 116 (100)] ++ wsX60)
def wsX6_told : List Cond := .code yX6_told cX6_told 2 (some .boolean) :: ([.fieldLink RX6 46 "DataGuardsModel" "code" "I", .fieldLink RX6 29 "DataGuardsModel" "told" "[Z"] ++ wsX60)
def wsX6_polynomial : List Cond := .code yX6_polynomial cX6_polynomial 2 (some .int) :: ([.fieldLink RX6 46 "DataGuardsModel" "code" "I", .constant RX6 118 (-189989101)] ++ wsX60)
def wsJx00060_init_a7421 : List Cond := .code yJx00060_init_a7421 cJx00060_init_a7421 2 none :: ([])
def wsJ9_min_7cf53 : List Cond := .code yJ9_min_7cf53 cJ9_min_7cf53 2 (some .int) :: ([])
def wsL_cell : List Cond := .code yL_cell cL_cell 2 (some .int) :: ([])
def wsL_out : List Cond := .codeWith yL_out cL_out 4 (some .int) [(0, 9, 12, 13)] :: ([.methodLink RL 7 yX5_out, .instanceMethod yX5_out, .selects RX5 yX5_out yX5_out, .initialized RX5, .code yX5_out cX5_out 2 (some .byte), .fieldLink RX5 18 "DataGuards" "sender" "LDataGuards$Sender;", .classLink RX5 59 RJx00060, .instantiable RJx00060 6, .initialized RJx00060, .methodLink RX5 54 yX1_has, .instanceMethod yX1_has, .selects RX1 yX1_has yX1_has, .initialized RX1, .code yX1_has cX1_has 2 (some .boolean), .fieldLink RX1 15 "DataGuards$Octets" "length" "I", .fieldLink RX1 9 "DataGuards$Octets" "places" "[B", .methodLink RX5 66 yX1_get, .instanceMethod yX1_get, .selects RX1 yX1_get yX1_get, .code yX1_get cX1_get 2 (some .int), .methodLink RX1 19 yX1_has] ++ wsX50 ++ wsX40 ++ wsJx000600 ++ wsX10)
def wsL_law_r1 : List Cond := [Cond.classLink RL 8 RX5, Cond.instantiable RX5 5, Cond.initialized RX5, Cond.classLink RL 24 RX6, Cond.instantiable RX6 23, Cond.initialized RX6, Cond.arrayClass .long, Cond.constantLong RL 71 (4294967295), Cond.methodLink RL 15 yL_cell, Cond.static yL_cell, Cond.initialized RL, Cond.code yL_cell cL_cell 2 (some .int), Cond.methodLink RL 21 yX5_init, Cond.instanceMethod yX5_init, Cond.code yX5_init cX5_init 3 none, Cond.methodLink RX5 1 objectInit, Cond.instanceMethod objectInit, Cond.code objectInit ⟨#[0xb1]⟩ 1 none, Cond.classLink RX5 13 RX4, Cond.instantiable RX4 7, Cond.initialized RX4, Cond.fieldLink RX5 18 "DataGuards" "sender" "LDataGuards$Sender;", Cond.classLink RX5 24 RX3, Cond.instantiable RX3 4]
def wsL_law_r2 : List Cond := [Cond.initialized RX3, Cond.fieldLink RX5 27 "DataGuards" "receiver" "LDataGuards$Receiver;", Cond.classLink RX5 31 RX0, Cond.instantiable RX0 5, Cond.initialized RX0, Cond.fieldLink RX5 34 "DataGuards" "history" "LDataGuards$History;", Cond.methodLink RX5 7 yX2_numbered, Cond.static yX2_numbered, Cond.initialized RX2, Cond.code yX2_numbered cX2_numbered 1 (some (.object "DataGuards$Profile")), Cond.classLink RX2 10 RX2, Cond.instantiable RX2 6, Cond.constant RX2 30 (65535), Cond.constant RX2 34 (-189989101), Cond.constant RX2 35 (65536), Cond.methodLink RX2 31 yX2_init, Cond.instanceMethod yX2_init, Cond.code yX2_init cX2_init 7 none, Cond.methodLink RX2 3 objectInit, Cond.fieldLink RX2 9 "DataGuards$Profile" "bits" "I", Cond.fieldLink RX2 15 "DataGuards$Profile" "shape" "I", Cond.fieldLink RX2 18 "DataGuards$Profile" "begin" "I", Cond.fieldLink RX2 21 "DataGuards$Profile" "end" "I", Cond.fieldLink RX2 24 "DataGuards$Profile" "counters" "I"]
def wsL_law_r3 : List Cond := [Cond.fieldLink RX2 27 "DataGuards$Profile" "counterOctets" "I", Cond.methodLink RX5 15 yX4_init, Cond.instanceMethod yX4_init, Cond.code yX4_init cX4_init 2 none, Cond.methodLink RX4 3 objectInit, Cond.classLink RX4 9 RX1, Cond.instantiable RX1 2, Cond.initialized RX1, Cond.fieldLink RX4 12 "DataGuards$Sender" "data" "LDataGuards$Octets;", Cond.fieldLink RX4 18 "DataGuards$Sender" "row" "LDataGuards$Octets;", Cond.fieldLink RX4 21 "DataGuards$Sender" "profile" "LDataGuards$Profile;", Cond.instanceMethod yX1_init, Cond.code yX1_init cX1_init 1 none, Cond.methodLink RX1 3 objectInit, Cond.arrayClass .byte, Cond.fieldLink RX1 9 "DataGuards$Octets" "places" "[B", Cond.methodLink RX5 26 yX3_init, Cond.instanceMethod yX3_init, Cond.code yX3_init cX3_init 2 none, Cond.methodLink RX3 3 objectInit, Cond.classLink RX3 9 RX1, Cond.fieldLink RX3 12 "DataGuards$Receiver" "row" "LDataGuards$Octets;", Cond.fieldLink RX3 18 "DataGuards$Receiver" "counterBefore" "I", Cond.fieldLink RX3 22 "DataGuards$Receiver" "profile" "LDataGuards$Profile;"]
def wsL_law_r4 : List Cond := [Cond.instanceMethod yX0_init, Cond.code yX0_init cX0_init 1 none, Cond.methodLink RX0 3 objectInit, Cond.arrayClass .int, Cond.fieldLink RX0 9 "DataGuards$History" "findings" "[I", Cond.fieldLink RX0 15 "DataGuards$History" "joined" "I", Cond.methodLink RL 26 yX6_init, Cond.instanceMethod yX6_init, Cond.code yX6_init cX6_init 2 none, Cond.methodLink RX6 1 objectInit, Cond.fieldLink RX6 7 "DataGuardsModel" "data" "[I", Cond.fieldLink RX6 13 "DataGuardsModel" "row" "[I", Cond.fieldLink RX6 16 "DataGuardsModel" "flipAt" "I", Cond.fieldLink RX6 20 "DataGuardsModel" "taken" "[I", Cond.fieldLink RX6 23 "DataGuardsModel" "before" "I", Cond.fieldLink RX6 26 "DataGuardsModel" "last" "[I", Cond.arrayClass .boolean, Cond.fieldLink RX6 29 "DataGuardsModel" "told" "[Z", Cond.fieldLink RX6 33 "DataGuardsModel" "profile" "I", Cond.fieldLink RX6 36 "DataGuardsModel" "bits" "I", Cond.constant RX6 39 (65536), Cond.fieldLink RX6 40 "DataGuardsModel" "counters" "I", Cond.fieldLink RX6 43 "DataGuardsModel" "head" "I", Cond.methodLink RL 27 yX5_octet]
def wsL_law_r5 : List Cond := [Cond.instanceMethod yX5_octet, Cond.selects RX5 yX5_octet yX5_octet, Cond.code yX5_octet cX5_octet 2 none, Cond.methodLink RX5 38 yX4_collect, Cond.instanceMethod yX4_collect, Cond.selects RX4 yX4_collect yX4_collect, Cond.code yX4_collect cX4_collect 2 none, Cond.methodLink RX4 29 yX1_add, Cond.instanceMethod yX1_add, Cond.selects RX1 yX1_add yX1_add, Cond.code yX1_add cX1_add 2 (some .boolean), Cond.fieldLink RX1 15 "DataGuards$Octets" "length" "I", Cond.methodLink RL 31 yX6_octet, Cond.instanceMethod yX6_octet, Cond.selects RX6 yX6_octet yX6_octet, Cond.code yX6_octet cX6_octet 2 none, Cond.fieldLink RX6 46 "DataGuardsModel" "code" "I", Cond.fieldLink RX6 61 "DataGuardsModel" "given" "I", Cond.methodLink RL 32 yX5_protect, Cond.instanceMethod yX5_protect, Cond.selects RX5 yX5_protect yX5_protect, Cond.code yX5_protect cX5_protect 2 (some .int), Cond.methodLink RX5 42 yX5_isIdentity, Cond.static yX5_isIdentity]
def wsL_law_r6 : List Cond := [Cond.code yX5_isIdentity cX5_isIdentity 1 (some .boolean), Cond.constant RX5 116 (65535), Cond.methodLink RX5 46 yX4_makeRow, Cond.instanceMethod yX4_makeRow, Cond.selects RX4 yX4_makeRow yX4_makeRow, Cond.code yX4_makeRow cX4_makeRow 3 (some .int), Cond.fieldLink RX4 42 "DataGuards$Sender" "nextCounter" "I", Cond.fieldLink RX4 39 "DataGuards$Sender" "skip" "I", Cond.fieldLink RX4 33 "DataGuards$Sender" "flipPlace" "I", Cond.fieldLink RX4 36 "DataGuards$Sender" "flipMask" "I", Cond.methodLink RX4 45 yX2_goingRound, Cond.instanceMethod yX2_goingRound, Cond.selects RX2 yX2_goingRound yX2_goingRound, Cond.code yX2_goingRound cX2_goingRound 2 (some .int), Cond.methodLink RX2 36 yJ9_floorMod_7cf53, Cond.static yJ9_floorMod_7cf53, Cond.initialized RJ9, Cond.code yJ9_floorMod_7cf53 cJ9_floorMod_7cf53 3 (some .int), Cond.methodLink RX4 51 yX1_clear, Cond.instanceMethod yX1_clear, Cond.selects RX1 yX1_clear yX1_clear, Cond.code yX1_clear cX1_clear 1 none, Cond.methodLink RX4 57 yX1_addNumber, Cond.instanceMethod yX1_addNumber]
def wsL_law_r7 : List Cond := [Cond.selects RX1 yX1_addNumber yX1_addNumber, Cond.code yX1_addNumber cX1_addNumber 4 none, Cond.methodLink RX1 27 yX1_add, Cond.methodLink RX4 61 yX1_addAll, Cond.instanceMethod yX1_addAll, Cond.selects RX1 yX1_addAll yX1_addAll, Cond.code yX1_addAll cX1_addAll 3 none, Cond.methodLink RX1 23 yX1_get, Cond.instanceMethod yX1_get, Cond.selects RX1 yX1_get yX1_get, Cond.code yX1_get cX1_get 2 (some .int), Cond.methodLink RX1 19 yX1_has, Cond.instanceMethod yX1_has, Cond.selects RX1 yX1_has yX1_has, Cond.code yX1_has cX1_has 2 (some .boolean), Cond.methodLink RX4 65 yX2_checkOver, Cond.instanceMethod yX2_checkOver, Cond.selects RX2 yX2_checkOver yX2_checkOver, Cond.code yX2_checkOver cX2_checkOver 6 (some .int), Cond.methodLink RX2 42 yX2_shifted, Cond.instanceMethod yX2_shifted, Cond.selects RX2 yX2_shifted yX2_shifted, Cond.code yX2_shifted cX2_shifted 8 (some .int), Cond.methodLink RX2 45 yX1_get]
def wsL_law_r8 : List Cond := [Cond.methodLink RX4 69 yX2_checkOctets, Cond.instanceMethod yX2_checkOctets, Cond.selects RX2 yX2_checkOctets yX2_checkOctets, Cond.code yX2_checkOctets cX2_checkOctets 1 (some .int), Cond.methodLink RX4 73 yX1_flip, Cond.instanceMethod yX1_flip, Cond.selects RX1 yX1_flip yX1_flip, Cond.code yX1_flip cX1_flip 3 none, Cond.methodLink RL 36 yX6_protect, Cond.instanceMethod yX6_protect, Cond.selects RX6 yX6_protect yX6_protect, Cond.code yX6_protect cX6_protect 7 (some .int), Cond.constant RX6 64 (65535), Cond.fieldLink RX6 65 "DataGuardsModel" "counter" "I", Cond.fieldLink RX6 68 "DataGuardsModel" "skip" "I", Cond.fieldLink RX6 75 "DataGuardsModel" "made" "I", Cond.constantLong RX6 82 (255), Cond.fieldLink RX6 84 "DataGuardsModel" "flip" "I", Cond.methodLink RX6 71 yX6_begin, Cond.instanceMethod yX6_begin, Cond.selects RX6 yX6_begin yX6_begin, Cond.code yX6_begin cX6_begin 4 (some .long), Cond.methodLink RX6 57 yX6_add, Cond.instanceMethod yX6_add]
def wsL_law_r9 : List Cond := [Cond.selects RX6 yX6_add yX6_add, Cond.code yX6_add cX6_add 13 (some .long), Cond.constantLong RX6 49 (29), Cond.constantLong RX6 51 (4129), Cond.constantLong RX6 53 (4104978195), Cond.constantLong RX6 55 (2), Cond.methodLink RX6 78 yX6_end, Cond.instanceMethod yX6_end, Cond.selects RX6 yX6_end yX6_end, Cond.code yX6_end cX6_end 3 (some .long), Cond.methodLink RL 37 yL_out, Cond.static yL_out, Cond.codeWith yL_out cL_out 4 (some .int) [(0, 9, 12, 13)], Cond.methodLink RL 7 yX5_out, Cond.instanceMethod yX5_out, Cond.selects RX5 yX5_out yX5_out, Cond.code yX5_out cX5_out 2 (some .byte), Cond.classLink RX5 59 RJx00060, Cond.instantiable RJx00060 6, Cond.initialized RJx00060, Cond.methodLink RX5 54 yX1_has, Cond.methodLink RX5 66 yX1_get, Cond.methodLink RL 40 yX6_out, Cond.instanceMethod yX6_out]
def wsL_law_r10 : List Cond := [Cond.selects RX6 yX6_out yX6_out, Cond.code yX6_out cX6_out 2 (some .byte), Cond.methodLink RL 41 yX6_thrown, Cond.instanceMethod yX6_thrown, Cond.selects RX6 yX6_thrown yX6_thrown, Cond.code yX6_thrown cX6_thrown 1 (some .int), Cond.methodLink RL 45 yX5_check, Cond.instanceMethod yX5_check, Cond.selects RX5 yX5_check yX5_check, Cond.code yX5_check cX5_check 4 (some .int), Cond.methodLink RX5 69 yX3_collect, Cond.instanceMethod yX3_collect, Cond.selects RX3 yX3_collect yX3_collect, Cond.code yX3_collect cX3_collect 2 none, Cond.fieldLink RX3 30 "DataGuards$Receiver" "tooMany" "Z", Cond.methodLink RX3 26 yX1_add, Cond.methodLink RX5 70 yX5_endOfRow, Cond.instanceMethod yX5_endOfRow, Cond.selects RX5 yX5_endOfRow yX5_endOfRow, Cond.code yX5_endOfRow cX5_endOfRow 3 (some .int), Cond.fieldLink RX5 94 "DataGuards" "timeTold" "J", Cond.fieldLink RX5 98 "DataGuards" "timeOfGoodRow" "J", Cond.methodLink RX5 107 yX3_endRow, Cond.instanceMethod yX3_endRow]
def wsL_law_r11 : List Cond := [Cond.selects RX3 yX3_endRow yX3_endRow, Cond.code yX3_endRow cX3_endRow 3 (some .int), Cond.methodLink RX3 34 yX3_isInError, Cond.instanceMethod yX3_isInError, Cond.selects RX3 yX3_isInError yX3_isInError, Cond.code yX3_isInError cX3_isInError 4 (some .boolean), Cond.methodLink RX3 51 yX2_checkOctets, Cond.methodLink RX3 59 yX1_numberAt, Cond.instanceMethod yX1_numberAt, Cond.selects RX1 yX1_numberAt yX1_numberAt, Cond.code yX1_numberAt cX1_numberAt 5 (some .int), Cond.methodLink RX3 63 yX2_checkOver, Cond.methodLink RX3 37 yX3_rowCounter, Cond.instanceMethod yX3_rowCounter, Cond.selects RX3 yX3_rowCounter yX3_rowCounter, Cond.code yX3_rowCounter cX3_rowCounter 1 (some .int), Cond.methodLink RX3 41 yX3_findingOf, Cond.instanceMethod yX3_findingOf, Cond.selects RX3 yX3_findingOf yX3_findingOf, Cond.code yX3_findingOf cX3_findingOf 3 (some .int), Cond.methodLink RX3 70 yX2_goingRound, Cond.methodLink RX3 73 yX3_findingOfSteps, Cond.static yX3_findingOfSteps, Cond.code yX3_findingOfSteps cX3_findingOfSteps 1 (some .int)]
def wsL_law_r12 : List Cond := [Cond.methodLink RX3 45 yX1_clear, Cond.methodLink RX5 110 yX0_add, Cond.instanceMethod yX0_add, Cond.selects RX0 yX0_add yX0_add, Cond.code yX0_add cX0_add 3 none, Cond.fieldLink RX0 19 "DataGuards$History" "rows" "I", Cond.methodLink RX0 22 Lib.Math.min.name, Cond.static Lib.Math.min.name, Cond.initialized "java/lang/Math", Cond.code Lib.Math.min.name Lib.Math.min.code 2 (some .int), Cond.fieldLink RX0 32 "DataGuards$History" "goodRows" "I", Cond.fieldLink RX0 35 "DataGuards$History" "everFoundBits" "I", Cond.static yX5_sideOf, Cond.code yX5_sideOf cX5_sideOf 1 (some .int), Cond.methodLink RX0 38 yX0_joinedAfter, Cond.instanceMethod yX0_joinedAfter, Cond.selects RX0 yX0_joinedAfter yX0_joinedAfter, Cond.code yX0_joinedAfter cX0_joinedAfter 4 (some .int), Cond.methodLink RX0 41 yX0_countOfLast, Cond.instanceMethod yX0_countOfLast, Cond.selects RX0 yX0_countOfLast yX0_countOfLast, Cond.code yX0_countOfLast cX0_countOfLast 5 (some .int), Cond.methodLink RX0 44 yX0_finding, Cond.instanceMethod yX0_finding]
def wsL_law_r13 : List Cond := [Cond.selects RX0 yX0_finding yX0_finding, Cond.code yX0_finding cX0_finding 2 (some .int), Cond.methodLink RX5 113 yX5_sideOf, Cond.methodLink RL 49 yX6_check, Cond.instanceMethod yX6_check, Cond.selects RX6 yX6_check yX6_check, Cond.code yX6_check cX6_check 8 (some .int), Cond.fieldLink RX6 87 "DataGuardsModel" "come" "I", Cond.fieldLink RX6 100 "DataGuardsModel" "valid" "I", Cond.fieldLink RX6 103 "DataGuardsModel" "now" "J", Cond.fieldLink RX6 107 "DataGuardsModel" "since" "J", Cond.fieldLink RX6 110 "DataGuardsModel" "many" "I", Cond.fieldLink RX6 113 "DataGuardsModel" "joined" "I", Cond.methodLink RX6 92 yX6_find, Cond.instanceMethod yX6_find, Cond.selects RX6 yX6_find yX6_find, Cond.code yX6_find cX6_find 11 (some .int), Cond.constantLong RX6 90 (256), Cond.methodLink RX6 96 yX6_good, Cond.static yX6_good, Cond.code yX6_good cX6_good 1 (some .boolean), Cond.methodLink RL 50 yX5_counter, Cond.instanceMethod yX5_counter, Cond.selects RX5 yX5_counter yX5_counter]
def wsL_law_r14 : List Cond := [Cond.code yX5_counter cX5_counter 1 (some .int), Cond.methodLink RL 53 yX6_counter, Cond.instanceMethod yX6_counter, Cond.selects RX6 yX6_counter yX6_counter, Cond.code yX6_counter cX6_counter 1 (some .int), Cond.methodLink RL 54 yX5_state, Cond.instanceMethod yX5_state, Cond.selects RX5 yX5_state yX5_state, Cond.code yX5_state cX5_state 1 (some .int), Cond.methodLink RL 57 yX6_state, Cond.instanceMethod yX6_state, Cond.selects RX6 yX6_state yX6_state, Cond.code yX6_state cX6_state 1 (some .int), Cond.methodLink RL 58 yX5_span, Cond.instanceMethod yX5_span, Cond.selects RX5 yX5_span yX5_span, Cond.code yX5_span cX5_span 2 (some .int), Cond.methodLink RX5 80 yX0_finding, Cond.methodLink RL 61 yX6_span, Cond.instanceMethod yX6_span, Cond.selects RX6 yX6_span yX6_span, Cond.code yX6_span cX6_span 2 (some .int), Cond.methodLink RL 62 yX5_plant, Cond.instanceMethod yX5_plant]
def wsL_law_r15 : List Cond := [Cond.selects RX5 yX5_plant yX5_plant, Cond.code yX5_plant cX5_plant 4 (some .int), Cond.methodLink RX5 83 yX4_plantFlip, Cond.instanceMethod yX4_plantFlip, Cond.selects RX4 yX4_plantFlip yX4_plantFlip, Cond.code yX4_plantFlip cX4_plantFlip 3 none, Cond.methodLink RX5 87 yX4_plantSkip, Cond.instanceMethod yX4_plantSkip, Cond.selects RX4 yX4_plantSkip yX4_plantSkip, Cond.code yX4_plantSkip cX4_plantSkip 2 none, Cond.methodLink RL 66 yX6_plant, Cond.instanceMethod yX6_plant, Cond.selects RX6 yX6_plant yX6_plant, Cond.code yX6_plant cX6_plant 4 (some .int), Cond.methodLink RL 67 yX5_valid, Cond.instanceMethod yX5_valid, Cond.selects RX5 yX5_valid yX5_valid, Cond.code yX5_valid cX5_valid 1 (some .int), Cond.methodLink RL 70 yX6_valid, Cond.instanceMethod yX6_valid, Cond.selects RX6 yX6_valid yX6_valid, Cond.code yX6_valid cX6_valid 1 (some .int), Cond.methodLink RL 73 yX5_react, Cond.instanceMethod yX5_react]
def wsL_law_r16 : List Cond := [Cond.selects RX5 yX5_react yX5_react, Cond.code yX5_react cX5_react 3 (some .int), Cond.constantLong RX5 101 (100), Cond.methodLink RL 77 yX6_react, Cond.instanceMethod yX6_react, Cond.selects RX6 yX6_react yX6_react, Cond.code yX6_react cX6_react 3 (some .int), Cond.constantLong RX6 116 (100), Cond.methodLink RL 78 yX5_told, Cond.instanceMethod yX5_told, Cond.selects RX5 yX5_told yX5_told, Cond.code yX5_told cX5_told 2 (some .boolean), Cond.methodLink RX5 103 yX0_everFound, Cond.instanceMethod yX0_everFound, Cond.selects RX0 yX0_everFound yX0_everFound, Cond.code yX0_everFound cX0_everFound 2 (some .boolean), Cond.methodLink RL 82 yX6_told, Cond.instanceMethod yX6_told, Cond.selects RX6 yX6_told yX6_told, Cond.code yX6_told cX6_told 2 (some .boolean), Cond.methodLink RL 83 yX5_polynomial, Cond.instanceMethod yX5_polynomial, Cond.selects RX5 yX5_polynomial yX5_polynomial, Cond.code yX5_polynomial cX5_polynomial 2 (some .int)]
def wsL_law_r17 : List Cond := [Cond.constant RX5 106 (-189989101), Cond.methodLink RL 86 yX6_polynomial, Cond.instanceMethod yX6_polynomial, Cond.selects RX6 yX6_polynomial yX6_polynomial, Cond.code yX6_polynomial cX6_polynomial 2 (some .int), Cond.constant RX6 118 (-189989101)]
def wsL_law : List Cond := (wsL_law_r1 ++ (wsL_law_r2 ++ (wsL_law_r3 ++ (wsL_law_r4 ++ (wsL_law_r5 ++ (wsL_law_r6 ++ (wsL_law_r7 ++ (wsL_law_r8 ++ (wsL_law_r9 ++ (wsL_law_r10 ++ (wsL_law_r11 ++ (wsL_law_r12 ++ (wsL_law_r13 ++ (wsL_law_r14 ++ (wsL_law_r15 ++ (wsL_law_r16 ++ wsL_law_r17)))))))))))))))) ++ wsX50 ++ wsX60 ++ wsX40 ++ wsX30 ++ wsX00 ++ wsX20 ++ wsX10 ++ wsJx000600 ++ ([] : List Cond)
abbrev vwCl : List vw_C := [(RJx00060, TJx00060, 6), (RX0, TX0, 5), (RX1, TX1, 2), (RX2, TX2, 6), (RX3, TX3, 4), (RX4, TX4, 7), (RX5, TX5, 5), (RX6, TX6, 23)]
end
section
theorem dX0_init_0 : decode cX0_init 0 = .ok (.aload_n 0, 1) := by decide +kernel
theorem dX0_init_1 : decode cX0_init 1 = .ok (.invokespecial 3, 3) := by decide +kernel
theorem dX0_init_4 : decode cX0_init 4 = .ok (.aload_n 0, 1) := by decide +kernel
theorem dX0_init_5 : decode cX0_init 5 = .ok (.bipush 10, 2) := by decide +kernel
theorem dX0_init_7 : decode cX0_init 7 = .ok (.newarray .int, 2) := by decide +kernel
theorem dX0_init_9 : decode cX0_init 9 = .ok (.putfield 9, 3) := by decide +kernel
theorem dX0_init_12 : decode cX0_init 12 = .ok (.aload_n 0, 1) := by decide +kernel
theorem dX0_init_13 : decode cX0_init 13 = .ok (.iconst 0, 1) := by decide +kernel
theorem dX0_init_14 : decode cX0_init 14 = .ok (.putfield 15, 3) := by decide +kernel
theorem dX0_init_17 : decode cX0_init 17 = .ok (.return_, 1) := by decide +kernel
set_option maxRecDepth 20000 in
theorem ggX0_add_X5_sideOf : GoodIn wsX0_add wsX5_sideOf := goodIn_r _ [12] (by decide +kernel) (by decide +kernel)
set_option maxRecDepth 20000 in
theorem gX0_add_X5_sideOf_n28 : GoodIn wsX0_add (wsX5_sideOf) := ggX0_add_X5_sideOf
set_option maxRecDepth 20000 in
theorem ggX0_add_X0_joinedAfter : GoodIn wsX0_add wsX0_joinedAfter := goodIn_r _ [17, 18, 19, 20, 16, 21, 22, 23, 24, 25, 2, 1, 10, 11, 12, 26, 27, 28, 29, 30] (by decide +kernel) (by decide +kernel)
set_option maxRecDepth 20000 in
theorem gX0_add_X0_joinedAfter : GoodIn wsX0_add (wsV RX0 38 RX0 yX0_joinedAfter wsX0_joinedAfter) := goodIn_app (goodIn_of _ (by decide +kernel)) ggX0_add_X0_joinedAfter
theorem dX0_add_0 : decode cX0_add 0 = .ok (.bipush 9, 2) := by decide +kernel
theorem dX0_add_2 : decode cX0_add 2 = .ok (.istore_n 2, 1) := by decide +kernel
theorem dX0_add_3 : decode cX0_add 3 = .ok (.iload_n 2, 1) := by decide +kernel
theorem dX0_add_4 : decode cX0_add 4 = .ok (.ifCond .le 23, 3) := by decide +kernel
theorem dX0_add_7 : decode cX0_add 7 = .ok (.aload_n 0, 1) := by decide +kernel
theorem dX0_add_8 : decode cX0_add 8 = .ok (.getfield 9, 3) := by decide +kernel
theorem dX0_add_11 : decode cX0_add 11 = .ok (.iload_n 2, 1) := by decide +kernel
theorem dX0_add_12 : decode cX0_add 12 = .ok (.aload_n 0, 1) := by decide +kernel
theorem dX0_add_13 : decode cX0_add 13 = .ok (.getfield 9, 3) := by decide +kernel
theorem dX0_add_16 : decode cX0_add 16 = .ok (.iload_n 2, 1) := by decide +kernel
theorem dX0_add_17 : decode cX0_add 17 = .ok (.iconst 1, 1) := by decide +kernel
theorem dX0_add_18 : decode cX0_add 18 = .ok (.isub, 1) := by decide +kernel
theorem dX0_add_19 : decode cX0_add 19 = .ok (.iaload, 1) := by decide +kernel
theorem dX0_add_20 : decode cX0_add 20 = .ok (.iastore, 1) := by decide +kernel
theorem dX0_add_21 : decode cX0_add 21 = .ok (.iinc 2 (-1), 3) := by decide +kernel
theorem dX0_add_24 : decode cX0_add 24 = .ok (.goto (-21), 3) := by decide +kernel
theorem dX0_add_27 : decode cX0_add 27 = .ok (.aload_n 0, 1) := by decide +kernel
theorem dX0_add_28 : decode cX0_add 28 = .ok (.getfield 9, 3) := by decide +kernel
theorem dX0_add_31 : decode cX0_add 31 = .ok (.iconst 0, 1) := by decide +kernel
theorem dX0_add_32 : decode cX0_add 32 = .ok (.iload_n 1, 1) := by decide +kernel
theorem dX0_add_33 : decode cX0_add 33 = .ok (.iastore, 1) := by decide +kernel
theorem dX0_add_34 : decode cX0_add 34 = .ok (.aload_n 0, 1) := by decide +kernel
theorem dX0_add_35 : decode cX0_add 35 = .ok (.aload_n 0, 1) := by decide +kernel
theorem dX0_add_36 : decode cX0_add 36 = .ok (.getfield 19, 3) := by decide +kernel
theorem dX0_add_39 : decode cX0_add 39 = .ok (.iconst 1, 1) := by decide +kernel
theorem dX0_add_40 : decode cX0_add 40 = .ok (.iadd, 1) := by decide +kernel
theorem dX0_add_41 : decode cX0_add 41 = .ok (.bipush 10, 2) := by decide +kernel
theorem dX0_add_43 : decode cX0_add 43 = .ok (.invokestatic 22, 3) := by decide +kernel
theorem dX0_add_46 : decode cX0_add 46 = .ok (.putfield 19, 3) := by decide +kernel
theorem dX0_add_49 : decode cX0_add 49 = .ok (.iload_n 1, 1) := by decide +kernel
theorem dX0_add_50 : decode cX0_add 50 = .ok (.invokestatic 28, 3) := by decide +kernel
theorem dX0_add_53 : decode cX0_add 53 = .ok (.iconst 1, 1) := by decide +kernel
theorem dX0_add_54 : decode cX0_add 54 = .ok (.if_icmp .ne 13, 3) := by decide +kernel
theorem dX0_add_57 : decode cX0_add 57 = .ok (.aload_n 0, 1) := by decide +kernel
theorem dX0_add_58 : decode cX0_add 58 = .ok (.dup, 1) := by decide +kernel
theorem dX0_add_59 : decode cX0_add 59 = .ok (.getfield 32, 3) := by decide +kernel
theorem dX0_add_62 : decode cX0_add 62 = .ok (.iconst 1, 1) := by decide +kernel
theorem dX0_add_63 : decode cX0_add 63 = .ok (.iadd, 1) := by decide +kernel
theorem dX0_add_64 : decode cX0_add 64 = .ok (.putfield 32, 3) := by decide +kernel
theorem dX0_add_67 : decode cX0_add 67 = .ok (.aload_n 0, 1) := by decide +kernel
theorem dX0_add_68 : decode cX0_add 68 = .ok (.dup, 1) := by decide +kernel
theorem dX0_add_69 : decode cX0_add 69 = .ok (.getfield 35, 3) := by decide +kernel
theorem dX0_add_72 : decode cX0_add 72 = .ok (.iconst 1, 1) := by decide +kernel
theorem dX0_add_73 : decode cX0_add 73 = .ok (.iload_n 1, 1) := by decide +kernel
theorem dX0_add_74 : decode cX0_add 74 = .ok (.ishl, 1) := by decide +kernel
theorem dX0_add_75 : decode cX0_add 75 = .ok (.ior, 1) := by decide +kernel
theorem dX0_add_76 : decode cX0_add 76 = .ok (.putfield 35, 3) := by decide +kernel
theorem dX0_add_79 : decode cX0_add 79 = .ok (.aload_n 0, 1) := by decide +kernel
theorem dX0_add_80 : decode cX0_add 80 = .ok (.aload_n 0, 1) := by decide +kernel
theorem dX0_add_81 : decode cX0_add 81 = .ok (.aload_n 0, 1) := by decide +kernel
theorem dX0_add_82 : decode cX0_add 82 = .ok (.getfield 15, 3) := by decide +kernel
theorem dX0_add_85 : decode cX0_add 85 = .ok (.ifCond .ne 7, 3) := by decide +kernel
theorem dX0_add_88 : decode cX0_add 88 = .ok (.iconst 1, 1) := by decide +kernel
theorem dX0_add_89 : decode cX0_add 89 = .ok (.goto 7, 3) := by decide +kernel
theorem dX0_add_92 : decode cX0_add 92 = .ok (.aload_n 0, 1) := by decide +kernel
theorem dX0_add_93 : decode cX0_add 93 = .ok (.getfield 15, 3) := by decide +kernel
theorem dX0_add_96 : decode cX0_add 96 = .ok (.invokevirtual 38, 3) := by decide +kernel
theorem dX0_add_99 : decode cX0_add 99 = .ok (.putfield 15, 3) := by decide +kernel
theorem dX0_add_102 : decode cX0_add 102 = .ok (.return_, 1) := by decide +kernel
theorem dX0_finding_0 : decode cX0_finding 0 = .ok (.iload_n 1, 1) := by decide +kernel
theorem dX0_finding_1 : decode cX0_finding 1 = .ok (.ifCond .lt 29, 3) := by decide +kernel
theorem dX0_finding_4 : decode cX0_finding 4 = .ok (.iload_n 1, 1) := by decide +kernel
theorem dX0_finding_5 : decode cX0_finding 5 = .ok (.aload_n 0, 1) := by decide +kernel
theorem dX0_finding_6 : decode cX0_finding 6 = .ok (.getfield 19, 3) := by decide +kernel
theorem dX0_finding_9 : decode cX0_finding 9 = .ok (.if_icmp .ge 21, 3) := by decide +kernel
theorem dX0_finding_12 : decode cX0_finding 12 = .ok (.iload_n 1, 1) := by decide +kernel
theorem dX0_finding_13 : decode cX0_finding 13 = .ok (.aload_n 0, 1) := by decide +kernel
theorem dX0_finding_14 : decode cX0_finding 14 = .ok (.getfield 9, 3) := by decide +kernel
theorem dX0_finding_17 : decode cX0_finding 17 = .ok (.arraylength, 1) := by decide +kernel
theorem dX0_finding_18 : decode cX0_finding 18 = .ok (.if_icmp .ge 12, 3) := by decide +kernel
theorem dX0_finding_21 : decode cX0_finding 21 = .ok (.aload_n 0, 1) := by decide +kernel
theorem dX0_finding_22 : decode cX0_finding 22 = .ok (.getfield 9, 3) := by decide +kernel
theorem dX0_finding_25 : decode cX0_finding 25 = .ok (.iload_n 1, 1) := by decide +kernel
theorem dX0_finding_26 : decode cX0_finding 26 = .ok (.iaload, 1) := by decide +kernel
theorem dX0_finding_27 : decode cX0_finding 27 = .ok (.goto 4, 3) := by decide +kernel
theorem dX0_finding_30 : decode cX0_finding 30 = .ok (.iconst (-1), 1) := by decide +kernel
theorem dX0_finding_31 : decode cX0_finding 31 = .ok (.ireturn, 1) := by decide +kernel
theorem dX0_everFound_0 : decode cX0_everFound 0 = .ok (.iload_n 1, 1) := by decide +kernel
theorem dX0_everFound_1 : decode cX0_everFound 1 = .ok (.ifCond .lt 24, 3) := by decide +kernel
theorem dX0_everFound_4 : decode cX0_everFound 4 = .ok (.iload_n 1, 1) := by decide +kernel
theorem dX0_everFound_5 : decode cX0_everFound 5 = .ok (.iconst 5, 1) := by decide +kernel
theorem dX0_everFound_6 : decode cX0_everFound 6 = .ok (.if_icmp .gt 19, 3) := by decide +kernel
theorem dX0_everFound_9 : decode cX0_everFound 9 = .ok (.aload_n 0, 1) := by decide +kernel
theorem dX0_everFound_10 : decode cX0_everFound 10 = .ok (.getfield 35, 3) := by decide +kernel
theorem dX0_everFound_13 : decode cX0_everFound 13 = .ok (.iload_n 1, 1) := by decide +kernel
theorem dX0_everFound_14 : decode cX0_everFound 14 = .ok (.ishr, 1) := by decide +kernel
theorem dX0_everFound_15 : decode cX0_everFound 15 = .ok (.iconst 1, 1) := by decide +kernel
theorem dX0_everFound_16 : decode cX0_everFound 16 = .ok (.iand, 1) := by decide +kernel
theorem dX0_everFound_17 : decode cX0_everFound 17 = .ok (.iconst 1, 1) := by decide +kernel
theorem dX0_everFound_18 : decode cX0_everFound 18 = .ok (.if_icmp .ne 7, 3) := by decide +kernel
theorem dX0_everFound_21 : decode cX0_everFound 21 = .ok (.iconst 1, 1) := by decide +kernel
theorem dX0_everFound_22 : decode cX0_everFound 22 = .ok (.goto 4, 3) := by decide +kernel
theorem dX0_everFound_25 : decode cX0_everFound 25 = .ok (.iconst 0, 1) := by decide +kernel
theorem dX0_everFound_26 : decode cX0_everFound 26 = .ok (.ireturn, 1) := by decide +kernel
set_option maxRecDepth 20000 in
theorem ggX0_joinedAfter_X0_countOfLast : GoodIn wsX0_joinedAfter wsX0_countOfLast := goodIn_r _ [5, 6, 7, 8, 4, 9, 10, 11, 12, 13, 14, 15, 16, 17, 18, 19] (by decide +kernel) (by decide +kernel)
set_option maxRecDepth 20000 in
theorem gX0_joinedAfter_X0_countOfLast : GoodIn wsX0_joinedAfter (wsV RX0 41 RX0 yX0_countOfLast wsX0_countOfLast) := goodIn_app (goodIn_of _ (by decide +kernel)) ggX0_joinedAfter_X0_countOfLast
theorem dX0_joinedAfter_0 : decode cX0_joinedAfter 0 = .ok (.aload_n 0, 1) := by decide +kernel
theorem dX0_joinedAfter_1 : decode cX0_joinedAfter 1 = .ok (.bipush 10, 2) := by decide +kernel
theorem dX0_joinedAfter_3 : decode cX0_joinedAfter 3 = .ok (.iconst 2, 1) := by decide +kernel
theorem dX0_joinedAfter_4 : decode cX0_joinedAfter 4 = .ok (.invokevirtual 41, 3) := by decide +kernel
theorem dX0_joinedAfter_7 : decode cX0_joinedAfter 7 = .ok (.iconst 3, 1) := by decide +kernel
theorem dX0_joinedAfter_8 : decode cX0_joinedAfter 8 = .ok (.if_icmp .lt 5, 3) := by decide +kernel
theorem dX0_joinedAfter_11 : decode cX0_joinedAfter 11 = .ok (.iconst 3, 1) := by decide +kernel
theorem dX0_joinedAfter_12 : decode cX0_joinedAfter 12 = .ok (.ireturn, 1) := by decide +kernel
theorem dX0_joinedAfter_13 : decode cX0_joinedAfter 13 = .ok (.aload_n 0, 1) := by decide +kernel
theorem dX0_joinedAfter_14 : decode cX0_joinedAfter 14 = .ok (.bipush 10, 2) := by decide +kernel
theorem dX0_joinedAfter_16 : decode cX0_joinedAfter 16 = .ok (.iconst 1, 1) := by decide +kernel
theorem dX0_joinedAfter_17 : decode cX0_joinedAfter 17 = .ok (.invokevirtual 41, 3) := by decide +kernel
theorem dX0_joinedAfter_20 : decode cX0_joinedAfter 20 = .ok (.iconst 3, 1) := by decide +kernel
theorem dX0_joinedAfter_21 : decode cX0_joinedAfter 21 = .ok (.if_icmp .lt 7, 3) := by decide +kernel
theorem dX0_joinedAfter_24 : decode cX0_joinedAfter 24 = .ok (.iconst 1, 1) := by decide +kernel
theorem dX0_joinedAfter_25 : decode cX0_joinedAfter 25 = .ok (.goto 4, 3) := by decide +kernel
theorem dX0_joinedAfter_28 : decode cX0_joinedAfter 28 = .ok (.iconst 0, 1) := by decide +kernel
theorem dX0_joinedAfter_29 : decode cX0_joinedAfter 29 = .ok (.istore_n 2, 1) := by decide +kernel
theorem dX0_joinedAfter_30 : decode cX0_joinedAfter 30 = .ok (.aload_n 0, 1) := by decide +kernel
theorem dX0_joinedAfter_31 : decode cX0_joinedAfter 31 = .ok (.iconst 3, 1) := by decide +kernel
theorem dX0_joinedAfter_32 : decode cX0_joinedAfter 32 = .ok (.iconst 1, 1) := by decide +kernel
theorem dX0_joinedAfter_33 : decode cX0_joinedAfter 33 = .ok (.invokevirtual 41, 3) := by decide +kernel
theorem dX0_joinedAfter_36 : decode cX0_joinedAfter 36 = .ok (.iconst 3, 1) := by decide +kernel
theorem dX0_joinedAfter_37 : decode cX0_joinedAfter 37 = .ok (.if_icmp .ne 7, 3) := by decide +kernel
theorem dX0_joinedAfter_40 : decode cX0_joinedAfter 40 = .ok (.iconst 1, 1) := by decide +kernel
theorem dX0_joinedAfter_41 : decode cX0_joinedAfter 41 = .ok (.goto 4, 3) := by decide +kernel
theorem dX0_joinedAfter_44 : decode cX0_joinedAfter 44 = .ok (.iconst 0, 1) := by decide +kernel
theorem dX0_joinedAfter_45 : decode cX0_joinedAfter 45 = .ok (.istore_n 3, 1) := by decide +kernel
theorem dX0_joinedAfter_46 : decode cX0_joinedAfter 46 = .ok (.iload_n 2, 1) := by decide +kernel
theorem dX0_joinedAfter_47 : decode cX0_joinedAfter 47 = .ok (.ifCond .eq 21, 3) := by decide +kernel
theorem dX0_joinedAfter_50 : decode cX0_joinedAfter 50 = .ok (.iload_n 1, 1) := by decide +kernel
theorem dX0_joinedAfter_51 : decode cX0_joinedAfter 51 = .ok (.iconst 1, 1) := by decide +kernel
theorem dX0_joinedAfter_52 : decode cX0_joinedAfter 52 = .ok (.if_icmp .eq 12, 3) := by decide +kernel
theorem dX0_joinedAfter_55 : decode cX0_joinedAfter 55 = .ok (.iload_n 1, 1) := by decide +kernel
theorem dX0_joinedAfter_56 : decode cX0_joinedAfter 56 = .ok (.iconst 3, 1) := by decide +kernel
theorem dX0_joinedAfter_57 : decode cX0_joinedAfter 57 = .ok (.if_icmp .ne 11, 3) := by decide +kernel
theorem dX0_joinedAfter_60 : decode cX0_joinedAfter 60 = .ok (.iload_n 3, 1) := by decide +kernel
theorem dX0_joinedAfter_61 : decode cX0_joinedAfter 61 = .ok (.ifCond .eq 7, 3) := by decide +kernel
theorem dX0_joinedAfter_64 : decode cX0_joinedAfter 64 = .ok (.iconst 2, 1) := by decide +kernel
theorem dX0_joinedAfter_65 : decode cX0_joinedAfter 65 = .ok (.goto 4, 3) := by decide +kernel
theorem dX0_joinedAfter_68 : decode cX0_joinedAfter 68 = .ok (.iload_n 1, 1) := by decide +kernel
theorem dX0_joinedAfter_69 : decode cX0_joinedAfter 69 = .ok (.ireturn, 1) := by decide +kernel
set_option maxRecDepth 20000 in
theorem ggX0_countOfLast_X0_finding : GoodIn wsX0_countOfLast wsX0_finding := goodIn_r _ [5, 6, 7, 11, 12, 13, 14, 15] (by decide +kernel) (by decide +kernel)
set_option maxRecDepth 20000 in
theorem gX0_countOfLast_X0_finding : GoodIn wsX0_countOfLast (wsV RX0 44 RX0 yX0_finding wsX0_finding) := goodIn_app (goodIn_of _ (by decide +kernel)) ggX0_countOfLast_X0_finding
set_option maxRecDepth 20000 in
theorem ggX0_countOfLast_X5_sideOf : GoodIn wsX0_countOfLast wsX5_sideOf := goodIn_r _ [10] (by decide +kernel) (by decide +kernel)
set_option maxRecDepth 20000 in
theorem gX0_countOfLast_X5_sideOf_n28 : GoodIn wsX0_countOfLast (wsX5_sideOf) := ggX0_countOfLast_X5_sideOf
theorem dX0_countOfLast_0 : decode cX0_countOfLast 0 = .ok (.iconst 0, 1) := by decide +kernel
theorem dX0_countOfLast_1 : decode cX0_countOfLast 1 = .ok (.istore_n 3, 1) := by decide +kernel
theorem dX0_countOfLast_2 : decode cX0_countOfLast 2 = .ok (.iconst 0, 1) := by decide +kernel
theorem dX0_countOfLast_3 : decode cX0_countOfLast 3 = .ok (.istore 4, 2) := by decide +kernel
theorem dX0_countOfLast_5 : decode cX0_countOfLast 5 = .ok (.iload 4, 2) := by decide +kernel
theorem dX0_countOfLast_7 : decode cX0_countOfLast 7 = .ok (.iload_n 1, 1) := by decide +kernel
theorem dX0_countOfLast_8 : decode cX0_countOfLast 8 = .ok (.if_icmp .ge 25, 3) := by decide +kernel
theorem dX0_countOfLast_11 : decode cX0_countOfLast 11 = .ok (.aload_n 0, 1) := by decide +kernel
theorem dX0_countOfLast_12 : decode cX0_countOfLast 12 = .ok (.iload 4, 2) := by decide +kernel
theorem dX0_countOfLast_14 : decode cX0_countOfLast 14 = .ok (.invokevirtual 44, 3) := by decide +kernel
theorem dX0_countOfLast_17 : decode cX0_countOfLast 17 = .ok (.invokestatic 28, 3) := by decide +kernel
theorem dX0_countOfLast_20 : decode cX0_countOfLast 20 = .ok (.iload_n 2, 1) := by decide +kernel
theorem dX0_countOfLast_21 : decode cX0_countOfLast 21 = .ok (.if_icmp .ne 6, 3) := by decide +kernel
theorem dX0_countOfLast_24 : decode cX0_countOfLast 24 = .ok (.iinc 3 1, 3) := by decide +kernel
theorem dX0_countOfLast_27 : decode cX0_countOfLast 27 = .ok (.iinc 4 1, 3) := by decide +kernel
theorem dX0_countOfLast_30 : decode cX0_countOfLast 30 = .ok (.goto (-25), 3) := by decide +kernel
theorem dX0_countOfLast_33 : decode cX0_countOfLast 33 = .ok (.iload_n 3, 1) := by decide +kernel
theorem dX0_countOfLast_34 : decode cX0_countOfLast 34 = .ok (.ireturn, 1) := by decide +kernel
theorem dX1_init_0 : decode cX1_init 0 = .ok (.aload_n 0, 1) := by decide +kernel
theorem dX1_init_1 : decode cX1_init 1 = .ok (.invokespecial 3, 3) := by decide +kernel
theorem dX1_init_4 : decode cX1_init 4 = .ok (.aload_n 0, 1) := by decide +kernel
theorem dX1_init_5 : decode cX1_init 5 = .ok (.bipush 70, 2) := by decide +kernel
theorem dX1_init_7 : decode cX1_init 7 = .ok (.newarray .byte, 2) := by decide +kernel
theorem dX1_init_9 : decode cX1_init 9 = .ok (.putfield 9, 3) := by decide +kernel
theorem dX1_init_12 : decode cX1_init 12 = .ok (.return_, 1) := by decide +kernel
theorem dX1_has_0 : decode cX1_has 0 = .ok (.iload_n 1, 1) := by decide +kernel
theorem dX1_has_1 : decode cX1_has 1 = .ok (.ifCond .lt 24, 3) := by decide +kernel
theorem dX1_has_4 : decode cX1_has 4 = .ok (.iload_n 1, 1) := by decide +kernel
theorem dX1_has_5 : decode cX1_has 5 = .ok (.aload_n 0, 1) := by decide +kernel
theorem dX1_has_6 : decode cX1_has 6 = .ok (.getfield 15, 3) := by decide +kernel
theorem dX1_has_9 : decode cX1_has 9 = .ok (.if_icmp .ge 16, 3) := by decide +kernel
theorem dX1_has_12 : decode cX1_has 12 = .ok (.iload_n 1, 1) := by decide +kernel
theorem dX1_has_13 : decode cX1_has 13 = .ok (.aload_n 0, 1) := by decide +kernel
theorem dX1_has_14 : decode cX1_has 14 = .ok (.getfield 9, 3) := by decide +kernel
theorem dX1_has_17 : decode cX1_has 17 = .ok (.arraylength, 1) := by decide +kernel
theorem dX1_has_18 : decode cX1_has 18 = .ok (.if_icmp .ge 7, 3) := by decide +kernel
theorem dX1_has_21 : decode cX1_has 21 = .ok (.iconst 1, 1) := by decide +kernel
theorem dX1_has_22 : decode cX1_has 22 = .ok (.goto 4, 3) := by decide +kernel
theorem dX1_has_25 : decode cX1_has 25 = .ok (.iconst 0, 1) := by decide +kernel
theorem dX1_has_26 : decode cX1_has 26 = .ok (.ireturn, 1) := by decide +kernel
set_option maxRecDepth 20000 in
theorem ggX1_get_X1_has : GoodIn wsX1_get wsX1_has := goodIn_r _ [6, 7, 1, 8, 9] (by decide +kernel) (by decide +kernel)
set_option maxRecDepth 20000 in
theorem gX1_get_X1_has : GoodIn wsX1_get (wsV RX1 19 RX1 yX1_has wsX1_has) := goodIn_app (goodIn_of _ (by decide +kernel)) ggX1_get_X1_has
theorem dX1_get_0 : decode cX1_get 0 = .ok (.aload_n 0, 1) := by decide +kernel
theorem dX1_get_1 : decode cX1_get 1 = .ok (.iload_n 1, 1) := by decide +kernel
theorem dX1_get_2 : decode cX1_get 2 = .ok (.invokevirtual 19, 3) := by decide +kernel
theorem dX1_get_5 : decode cX1_get 5 = .ok (.ifCond .eq 16, 3) := by decide +kernel
theorem dX1_get_8 : decode cX1_get 8 = .ok (.aload_n 0, 1) := by decide +kernel
theorem dX1_get_9 : decode cX1_get 9 = .ok (.getfield 9, 3) := by decide +kernel
theorem dX1_get_12 : decode cX1_get 12 = .ok (.iload_n 1, 1) := by decide +kernel
theorem dX1_get_13 : decode cX1_get 13 = .ok (.baload, 1) := by decide +kernel
theorem dX1_get_14 : decode cX1_get 14 = .ok (.sipush 255, 3) := by decide +kernel
theorem dX1_get_17 : decode cX1_get 17 = .ok (.iand, 1) := by decide +kernel
theorem dX1_get_18 : decode cX1_get 18 = .ok (.goto 4, 3) := by decide +kernel
theorem dX1_get_21 : decode cX1_get 21 = .ok (.iconst 0, 1) := by decide +kernel
theorem dX1_get_22 : decode cX1_get 22 = .ok (.ireturn, 1) := by decide +kernel
theorem dX1_add_0 : decode cX1_add 0 = .ok (.aload_n 0, 1) := by decide +kernel
theorem dX1_add_1 : decode cX1_add 1 = .ok (.getfield 15, 3) := by decide +kernel
theorem dX1_add_4 : decode cX1_add 4 = .ok (.ifCond .lt 15, 3) := by decide +kernel
theorem dX1_add_7 : decode cX1_add 7 = .ok (.aload_n 0, 1) := by decide +kernel
theorem dX1_add_8 : decode cX1_add 8 = .ok (.getfield 15, 3) := by decide +kernel
theorem dX1_add_11 : decode cX1_add 11 = .ok (.aload_n 0, 1) := by decide +kernel
theorem dX1_add_12 : decode cX1_add 12 = .ok (.getfield 9, 3) := by decide +kernel
theorem dX1_add_15 : decode cX1_add 15 = .ok (.arraylength, 1) := by decide +kernel
theorem dX1_add_16 : decode cX1_add 16 = .ok (.if_icmp .lt 5, 3) := by decide +kernel
theorem dX1_add_19 : decode cX1_add 19 = .ok (.iconst 0, 1) := by decide +kernel
theorem dX1_add_20 : decode cX1_add 20 = .ok (.ireturn, 1) := by decide +kernel
theorem dX1_add_21 : decode cX1_add 21 = .ok (.aload_n 0, 1) := by decide +kernel
theorem dX1_add_22 : decode cX1_add 22 = .ok (.getfield 9, 3) := by decide +kernel
theorem dX1_add_25 : decode cX1_add 25 = .ok (.aload_n 0, 1) := by decide +kernel
theorem dX1_add_26 : decode cX1_add 26 = .ok (.getfield 15, 3) := by decide +kernel
theorem dX1_add_29 : decode cX1_add 29 = .ok (.iload_n 1, 1) := by decide +kernel
theorem dX1_add_30 : decode cX1_add 30 = .ok (.i2b, 1) := by decide +kernel
theorem dX1_add_31 : decode cX1_add 31 = .ok (.bastore, 1) := by decide +kernel
theorem dX1_add_32 : decode cX1_add 32 = .ok (.aload_n 0, 1) := by decide +kernel
theorem dX1_add_33 : decode cX1_add 33 = .ok (.dup, 1) := by decide +kernel
theorem dX1_add_34 : decode cX1_add 34 = .ok (.getfield 15, 3) := by decide +kernel
theorem dX1_add_37 : decode cX1_add 37 = .ok (.iconst 1, 1) := by decide +kernel
theorem dX1_add_38 : decode cX1_add 38 = .ok (.iadd, 1) := by decide +kernel
theorem dX1_add_39 : decode cX1_add 39 = .ok (.putfield 15, 3) := by decide +kernel
theorem dX1_add_42 : decode cX1_add 42 = .ok (.iconst 1, 1) := by decide +kernel
theorem dX1_add_43 : decode cX1_add 43 = .ok (.ireturn, 1) := by decide +kernel
set_option maxRecDepth 20000 in
theorem ggX1_addAll_X1_get : GoodIn wsX1_addAll wsX1_get := goodIn_r _ [6, 7, 8, 9, 10, 5, 11, 1, 16, 17] (by decide +kernel) (by decide +kernel)
set_option maxRecDepth 20000 in
theorem gX1_addAll_X1_get : GoodIn wsX1_addAll (wsV RX1 23 RX1 yX1_get wsX1_get) := goodIn_app (goodIn_of _ (by decide +kernel)) ggX1_addAll_X1_get
set_option maxRecDepth 20000 in
theorem ggX1_addAll_X1_add : GoodIn wsX1_addAll wsX1_add := goodIn_r _ [15, 1, 7, 16, 17] (by decide +kernel) (by decide +kernel)
set_option maxRecDepth 20000 in
theorem gX1_addAll_X1_add : GoodIn wsX1_addAll (wsV RX1 27 RX1 yX1_add wsX1_add) := goodIn_app (goodIn_of _ (by decide +kernel)) ggX1_addAll_X1_add
theorem dX1_addAll_0 : decode cX1_addAll 0 = .ok (.iconst 0, 1) := by decide +kernel
theorem dX1_addAll_1 : decode cX1_addAll 1 = .ok (.istore_n 2, 1) := by decide +kernel
theorem dX1_addAll_2 : decode cX1_addAll 2 = .ok (.iload_n 2, 1) := by decide +kernel
theorem dX1_addAll_3 : decode cX1_addAll 3 = .ok (.aload_n 1, 1) := by decide +kernel
theorem dX1_addAll_4 : decode cX1_addAll 4 = .ok (.getfield 15, 3) := by decide +kernel
theorem dX1_addAll_7 : decode cX1_addAll 7 = .ok (.if_icmp .ge 19, 3) := by decide +kernel
theorem dX1_addAll_10 : decode cX1_addAll 10 = .ok (.aload_n 0, 1) := by decide +kernel
theorem dX1_addAll_11 : decode cX1_addAll 11 = .ok (.aload_n 1, 1) := by decide +kernel
theorem dX1_addAll_12 : decode cX1_addAll 12 = .ok (.iload_n 2, 1) := by decide +kernel
theorem dX1_addAll_13 : decode cX1_addAll 13 = .ok (.invokevirtual 23, 3) := by decide +kernel
theorem dX1_addAll_16 : decode cX1_addAll 16 = .ok (.invokevirtual 27, 3) := by decide +kernel
theorem dX1_addAll_19 : decode cX1_addAll 19 = .ok (.pop, 1) := by decide +kernel
theorem dX1_addAll_20 : decode cX1_addAll 20 = .ok (.iinc 2 1, 3) := by decide +kernel
theorem dX1_addAll_23 : decode cX1_addAll 23 = .ok (.goto (-21), 3) := by decide +kernel
theorem dX1_addAll_26 : decode cX1_addAll 26 = .ok (.return_, 1) := by decide +kernel
set_option maxRecDepth 20000 in
theorem ggX1_addNumber_X1_add : GoodIn wsX1_addNumber wsX1_add := goodIn_r _ [5, 6, 7, 8, 9] (by decide +kernel) (by decide +kernel)
set_option maxRecDepth 20000 in
theorem gX1_addNumber_X1_add : GoodIn wsX1_addNumber (wsV RX1 27 RX1 yX1_add wsX1_add) := goodIn_app (goodIn_of _ (by decide +kernel)) ggX1_addNumber_X1_add
theorem dX1_addNumber_0 : decode cX1_addNumber 0 = .ok (.iload_n 2, 1) := by decide +kernel
theorem dX1_addNumber_1 : decode cX1_addNumber 1 = .ok (.iconst 1, 1) := by decide +kernel
theorem dX1_addNumber_2 : decode cX1_addNumber 2 = .ok (.isub, 1) := by decide +kernel
theorem dX1_addNumber_3 : decode cX1_addNumber 3 = .ok (.istore_n 3, 1) := by decide +kernel
theorem dX1_addNumber_4 : decode cX1_addNumber 4 = .ok (.iload_n 3, 1) := by decide +kernel
theorem dX1_addNumber_5 : decode cX1_addNumber 5 = .ok (.ifCond .lt 20, 3) := by decide +kernel
theorem dX1_addNumber_8 : decode cX1_addNumber 8 = .ok (.aload_n 0, 1) := by decide +kernel
theorem dX1_addNumber_9 : decode cX1_addNumber 9 = .ok (.iload_n 1, 1) := by decide +kernel
theorem dX1_addNumber_10 : decode cX1_addNumber 10 = .ok (.bipush 8, 2) := by decide +kernel
theorem dX1_addNumber_12 : decode cX1_addNumber 12 = .ok (.iload_n 3, 1) := by decide +kernel
theorem dX1_addNumber_13 : decode cX1_addNumber 13 = .ok (.imul, 1) := by decide +kernel
theorem dX1_addNumber_14 : decode cX1_addNumber 14 = .ok (.iushr, 1) := by decide +kernel
theorem dX1_addNumber_15 : decode cX1_addNumber 15 = .ok (.invokevirtual 27, 3) := by decide +kernel
theorem dX1_addNumber_18 : decode cX1_addNumber 18 = .ok (.pop, 1) := by decide +kernel
theorem dX1_addNumber_19 : decode cX1_addNumber 19 = .ok (.iinc 3 (-1), 3) := by decide +kernel
theorem dX1_addNumber_22 : decode cX1_addNumber 22 = .ok (.goto (-18), 3) := by decide +kernel
theorem dX1_addNumber_25 : decode cX1_addNumber 25 = .ok (.return_, 1) := by decide +kernel
set_option maxRecDepth 20000 in
theorem ggX1_numberAt_X1_get : GoodIn wsX1_numberAt wsX1_get := goodIn_r _ [5, 6, 7, 8, 9, 4, 10, 11, 12, 13] (by decide +kernel) (by decide +kernel)
set_option maxRecDepth 20000 in
theorem gX1_numberAt_X1_get : GoodIn wsX1_numberAt (wsV RX1 23 RX1 yX1_get wsX1_get) := goodIn_app (goodIn_of _ (by decide +kernel)) ggX1_numberAt_X1_get
theorem dX1_numberAt_0 : decode cX1_numberAt 0 = .ok (.iconst 0, 1) := by decide +kernel
theorem dX1_numberAt_1 : decode cX1_numberAt 1 = .ok (.istore_n 3, 1) := by decide +kernel
theorem dX1_numberAt_2 : decode cX1_numberAt 2 = .ok (.iconst 0, 1) := by decide +kernel
theorem dX1_numberAt_3 : decode cX1_numberAt 3 = .ok (.istore 4, 2) := by decide +kernel
theorem dX1_numberAt_5 : decode cX1_numberAt 5 = .ok (.iload 4, 2) := by decide +kernel
theorem dX1_numberAt_7 : decode cX1_numberAt 7 = .ok (.iload_n 2, 1) := by decide +kernel
theorem dX1_numberAt_8 : decode cX1_numberAt 8 = .ok (.if_icmp .ge 23, 3) := by decide +kernel
theorem dX1_numberAt_11 : decode cX1_numberAt 11 = .ok (.iload_n 3, 1) := by decide +kernel
theorem dX1_numberAt_12 : decode cX1_numberAt 12 = .ok (.bipush 8, 2) := by decide +kernel
theorem dX1_numberAt_14 : decode cX1_numberAt 14 = .ok (.ishl, 1) := by decide +kernel
theorem dX1_numberAt_15 : decode cX1_numberAt 15 = .ok (.aload_n 0, 1) := by decide +kernel
theorem dX1_numberAt_16 : decode cX1_numberAt 16 = .ok (.iload_n 1, 1) := by decide +kernel
theorem dX1_numberAt_17 : decode cX1_numberAt 17 = .ok (.iload 4, 2) := by decide +kernel
theorem dX1_numberAt_19 : decode cX1_numberAt 19 = .ok (.iadd, 1) := by decide +kernel
theorem dX1_numberAt_20 : decode cX1_numberAt 20 = .ok (.invokevirtual 23, 3) := by decide +kernel
theorem dX1_numberAt_23 : decode cX1_numberAt 23 = .ok (.ior, 1) := by decide +kernel
theorem dX1_numberAt_24 : decode cX1_numberAt 24 = .ok (.istore_n 3, 1) := by decide +kernel
theorem dX1_numberAt_25 : decode cX1_numberAt 25 = .ok (.iinc 4 1, 3) := by decide +kernel
theorem dX1_numberAt_28 : decode cX1_numberAt 28 = .ok (.goto (-23), 3) := by decide +kernel
theorem dX1_numberAt_31 : decode cX1_numberAt 31 = .ok (.iload_n 3, 1) := by decide +kernel
theorem dX1_numberAt_32 : decode cX1_numberAt 32 = .ok (.ireturn, 1) := by decide +kernel
set_option maxRecDepth 20000 in
theorem ggX1_flip_X1_has : GoodIn wsX1_flip wsX1_has := goodIn_r _ [6, 7, 1, 8, 9] (by decide +kernel) (by decide +kernel)
set_option maxRecDepth 20000 in
theorem gX1_flip_X1_has : GoodIn wsX1_flip (wsV RX1 19 RX1 yX1_has wsX1_has) := goodIn_app (goodIn_of _ (by decide +kernel)) ggX1_flip_X1_has
theorem dX1_flip_0 : decode cX1_flip 0 = .ok (.aload_n 0, 1) := by decide +kernel
theorem dX1_flip_1 : decode cX1_flip 1 = .ok (.iload_n 1, 1) := by decide +kernel
theorem dX1_flip_2 : decode cX1_flip 2 = .ok (.invokevirtual 19, 3) := by decide +kernel
theorem dX1_flip_5 : decode cX1_flip 5 = .ok (.ifCond .eq 18, 3) := by decide +kernel
theorem dX1_flip_8 : decode cX1_flip 8 = .ok (.aload_n 0, 1) := by decide +kernel
theorem dX1_flip_9 : decode cX1_flip 9 = .ok (.getfield 9, 3) := by decide +kernel
theorem dX1_flip_12 : decode cX1_flip 12 = .ok (.iload_n 1, 1) := by decide +kernel
theorem dX1_flip_13 : decode cX1_flip 13 = .ok (.aload_n 0, 1) := by decide +kernel
theorem dX1_flip_14 : decode cX1_flip 14 = .ok (.getfield 9, 3) := by decide +kernel
theorem dX1_flip_17 : decode cX1_flip 17 = .ok (.iload_n 1, 1) := by decide +kernel
theorem dX1_flip_18 : decode cX1_flip 18 = .ok (.baload, 1) := by decide +kernel
theorem dX1_flip_19 : decode cX1_flip 19 = .ok (.iload_n 2, 1) := by decide +kernel
theorem dX1_flip_20 : decode cX1_flip 20 = .ok (.ixor, 1) := by decide +kernel
theorem dX1_flip_21 : decode cX1_flip 21 = .ok (.i2b, 1) := by decide +kernel
theorem dX1_flip_22 : decode cX1_flip 22 = .ok (.bastore, 1) := by decide +kernel
theorem dX1_flip_23 : decode cX1_flip 23 = .ok (.return_, 1) := by decide +kernel
theorem dX1_clear_0 : decode cX1_clear 0 = .ok (.aload_n 0, 1) := by decide +kernel
theorem dX1_clear_1 : decode cX1_clear 1 = .ok (.iconst 0, 1) := by decide +kernel
theorem dX1_clear_2 : decode cX1_clear 2 = .ok (.putfield 15, 3) := by decide +kernel
theorem dX1_clear_5 : decode cX1_clear 5 = .ok (.return_, 1) := by decide +kernel
theorem dX2_init_0 : decode cX2_init 0 = .ok (.aload_n 0, 1) := by decide +kernel
theorem dX2_init_1 : decode cX2_init 1 = .ok (.invokespecial 3, 3) := by decide +kernel
theorem dX2_init_4 : decode cX2_init 4 = .ok (.aload_n 0, 1) := by decide +kernel
theorem dX2_init_5 : decode cX2_init 5 = .ok (.iload_n 1, 1) := by decide +kernel
theorem dX2_init_6 : decode cX2_init 6 = .ok (.putfield 9, 3) := by decide +kernel
theorem dX2_init_9 : decode cX2_init 9 = .ok (.aload_n 0, 1) := by decide +kernel
theorem dX2_init_10 : decode cX2_init 10 = .ok (.iload_n 2, 1) := by decide +kernel
theorem dX2_init_11 : decode cX2_init 11 = .ok (.putfield 15, 3) := by decide +kernel
theorem dX2_init_14 : decode cX2_init 14 = .ok (.aload_n 0, 1) := by decide +kernel
theorem dX2_init_15 : decode cX2_init 15 = .ok (.iload_n 3, 1) := by decide +kernel
theorem dX2_init_16 : decode cX2_init 16 = .ok (.putfield 18, 3) := by decide +kernel
theorem dX2_init_19 : decode cX2_init 19 = .ok (.aload_n 0, 1) := by decide +kernel
theorem dX2_init_20 : decode cX2_init 20 = .ok (.iload 4, 2) := by decide +kernel
theorem dX2_init_22 : decode cX2_init 22 = .ok (.putfield 21, 3) := by decide +kernel
theorem dX2_init_25 : decode cX2_init 25 = .ok (.aload_n 0, 1) := by decide +kernel
theorem dX2_init_26 : decode cX2_init 26 = .ok (.iload 5, 2) := by decide +kernel
theorem dX2_init_28 : decode cX2_init 28 = .ok (.putfield 24, 3) := by decide +kernel
theorem dX2_init_31 : decode cX2_init 31 = .ok (.aload_n 0, 1) := by decide +kernel
theorem dX2_init_32 : decode cX2_init 32 = .ok (.iload 6, 2) := by decide +kernel
theorem dX2_init_34 : decode cX2_init 34 = .ok (.putfield 27, 3) := by decide +kernel
theorem dX2_init_37 : decode cX2_init 37 = .ok (.return_, 1) := by decide +kernel
set_option maxRecDepth 20000 in
theorem ggX2_numbered_X2_init : GoodIn wsX2_numbered wsX2_init := goodIn_r _ [9, 10, 11, 12, 13, 14, 15, 16, 17, 18, 19, 20, 21, 22, 23, 24] (by decide +kernel) (by decide +kernel)
set_option maxRecDepth 20000 in
theorem gX2_numbered_X2_init : GoodIn wsX2_numbered (wsX2_init) := ggX2_numbered_X2_init
theorem dX2_numbered_0 : decode cX2_numbered 0 = .ok (.iload_n 0, 1) := by decide +kernel
theorem dX2_numbered_1 : decode cX2_numbered 1 = .ok (.lookupswitch 64 #[(2, 27), (3, 47)], 27) := by decide +kernel
theorem dX2_numbered_28 : decode cX2_numbered 28 = .ok (.new 10, 3) := by decide +kernel
theorem dX2_numbered_31 : decode cX2_numbered 31 = .ok (.dup, 1) := by decide +kernel
theorem dX2_numbered_32 : decode cX2_numbered 32 = .ok (.bipush 16, 2) := by decide +kernel
theorem dX2_numbered_34 : decode cX2_numbered 34 = .ok (.sipush 4129, 3) := by decide +kernel
theorem dX2_numbered_37 : decode cX2_numbered 37 = .ok (.ldc 30, 2) := by decide +kernel
theorem dX2_numbered_39 : decode cX2_numbered 39 = .ok (.iconst 0, 1) := by decide +kernel
theorem dX2_numbered_40 : decode cX2_numbered 40 = .ok (.sipush 256, 3) := by decide +kernel
theorem dX2_numbered_43 : decode cX2_numbered 43 = .ok (.iconst 1, 1) := by decide +kernel
theorem dX2_numbered_44 : decode cX2_numbered 44 = .ok (.invokespecial 31, 3) := by decide +kernel
theorem dX2_numbered_47 : decode cX2_numbered 47 = .ok (.areturn, 1) := by decide +kernel
theorem dX2_numbered_48 : decode cX2_numbered 48 = .ok (.new 10, 3) := by decide +kernel
theorem dX2_numbered_51 : decode cX2_numbered 51 = .ok (.dup, 1) := by decide +kernel
theorem dX2_numbered_52 : decode cX2_numbered 52 = .ok (.bipush 32, 2) := by decide +kernel
theorem dX2_numbered_54 : decode cX2_numbered 54 = .ok (.ldc 34, 2) := by decide +kernel
theorem dX2_numbered_56 : decode cX2_numbered 56 = .ok (.iconst (-1), 1) := by decide +kernel
theorem dX2_numbered_57 : decode cX2_numbered 57 = .ok (.iconst (-1), 1) := by decide +kernel
theorem dX2_numbered_58 : decode cX2_numbered 58 = .ok (.ldc 35, 2) := by decide +kernel
theorem dX2_numbered_60 : decode cX2_numbered 60 = .ok (.iconst 2, 1) := by decide +kernel
theorem dX2_numbered_61 : decode cX2_numbered 61 = .ok (.invokespecial 31, 3) := by decide +kernel
theorem dX2_numbered_64 : decode cX2_numbered 64 = .ok (.areturn, 1) := by decide +kernel
theorem dX2_numbered_65 : decode cX2_numbered 65 = .ok (.new 10, 3) := by decide +kernel
theorem dX2_numbered_68 : decode cX2_numbered 68 = .ok (.dup, 1) := by decide +kernel
theorem dX2_numbered_69 : decode cX2_numbered 69 = .ok (.bipush 8, 2) := by decide +kernel
theorem dX2_numbered_71 : decode cX2_numbered 71 = .ok (.bipush 29, 2) := by decide +kernel
theorem dX2_numbered_73 : decode cX2_numbered 73 = .ok (.sipush 255, 3) := by decide +kernel
theorem dX2_numbered_76 : decode cX2_numbered 76 = .ok (.sipush 255, 3) := by decide +kernel
theorem dX2_numbered_79 : decode cX2_numbered 79 = .ok (.bipush 15, 2) := by decide +kernel
theorem dX2_numbered_81 : decode cX2_numbered 81 = .ok (.iconst 1, 1) := by decide +kernel
theorem dX2_numbered_82 : decode cX2_numbered 82 = .ok (.invokespecial 31, 3) := by decide +kernel
theorem dX2_numbered_85 : decode cX2_numbered 85 = .ok (.areturn, 1) := by decide +kernel
theorem dX2_checkOctets_0 : decode cX2_checkOctets 0 = .ok (.aload_n 0, 1) := by decide +kernel
theorem dX2_checkOctets_1 : decode cX2_checkOctets 1 = .ok (.getfield 9, 3) := by decide +kernel
theorem dX2_checkOctets_4 : decode cX2_checkOctets 4 = .ok (.iconst 3, 1) := by decide +kernel
theorem dX2_checkOctets_5 : decode cX2_checkOctets 5 = .ok (.ishr, 1) := by decide +kernel
theorem dX2_checkOctets_6 : decode cX2_checkOctets 6 = .ok (.ireturn, 1) := by decide +kernel
set_option maxRecDepth 20000 in
theorem ggX2_goingRound_J9_floorMod_7cf53 : GoodIn wsX2_goingRound wsJ9_floorMod_7cf53 := goodIn_r _ [5] (by decide +kernel) (by decide +kernel)
set_option maxRecDepth 20000 in
theorem gX2_goingRound_J9_floorMod_7cf53 : GoodIn wsX2_goingRound (va_wsS RX2 36 yJ9_floorMod_7cf53 wsJ9_floorMod_7cf53) := goodIn_app (goodIn_of _ (by decide +kernel)) ggX2_goingRound_J9_floorMod_7cf53
theorem dX2_goingRound_0 : decode cX2_goingRound 0 = .ok (.aload_n 0, 1) := by decide +kernel
theorem dX2_goingRound_1 : decode cX2_goingRound 1 = .ok (.getfield 24, 3) := by decide +kernel
theorem dX2_goingRound_4 : decode cX2_goingRound 4 = .ok (.ifCond .le 14, 3) := by decide +kernel
theorem dX2_goingRound_7 : decode cX2_goingRound 7 = .ok (.iload_n 1, 1) := by decide +kernel
theorem dX2_goingRound_8 : decode cX2_goingRound 8 = .ok (.aload_n 0, 1) := by decide +kernel
theorem dX2_goingRound_9 : decode cX2_goingRound 9 = .ok (.getfield 24, 3) := by decide +kernel
theorem dX2_goingRound_12 : decode cX2_goingRound 12 = .ok (.invokestatic 36, 3) := by decide +kernel
theorem dX2_goingRound_15 : decode cX2_goingRound 15 = .ok (.goto 4, 3) := by decide +kernel
theorem dX2_goingRound_18 : decode cX2_goingRound 18 = .ok (.iconst 0, 1) := by decide +kernel
theorem dX2_goingRound_19 : decode cX2_goingRound 19 = .ok (.ireturn, 1) := by decide +kernel
set_option maxRecDepth 20000 in
theorem ggX2_checkOver_X2_shifted : GoodIn wsX2_checkOver wsX2_shifted := goodIn_r _ [7, 8, 9, 21, 22, 23, 24, 25, 26] (by decide +kernel) (by decide +kernel)
set_option maxRecDepth 20000 in
theorem gX2_checkOver_X2_shifted : GoodIn wsX2_checkOver (wsV RX2 42 RX2 yX2_shifted wsX2_shifted) := goodIn_app (goodIn_of _ (by decide +kernel)) ggX2_checkOver_X2_shifted
set_option maxRecDepth 20000 in
theorem ggX2_checkOver_X1_get : GoodIn wsX2_checkOver wsX1_get := goodIn_r _ [14, 15, 16, 17, 18, 13, 19, 20, 27, 28] (by decide +kernel) (by decide +kernel)
set_option maxRecDepth 20000 in
theorem gX2_checkOver_X1_get : GoodIn wsX2_checkOver (wsV RX2 45 RX1 yX1_get wsX1_get) := goodIn_app (goodIn_of _ (by decide +kernel)) ggX2_checkOver_X1_get
theorem dX2_checkOver_0 : decode cX2_checkOver 0 = .ok (.aload_n 0, 1) := by decide +kernel
theorem dX2_checkOver_1 : decode cX2_checkOver 1 = .ok (.aload_n 0, 1) := by decide +kernel
theorem dX2_checkOver_2 : decode cX2_checkOver 2 = .ok (.getfield 18, 3) := by decide +kernel
theorem dX2_checkOver_5 : decode cX2_checkOver 5 = .ok (.iload_n 1, 1) := by decide +kernel
theorem dX2_checkOver_6 : decode cX2_checkOver 6 = .ok (.bipush 8, 2) := by decide +kernel
theorem dX2_checkOver_8 : decode cX2_checkOver 8 = .ok (.ishr, 1) := by decide +kernel
theorem dX2_checkOver_9 : decode cX2_checkOver 9 = .ok (.invokevirtual 42, 3) := by decide +kernel
theorem dX2_checkOver_12 : decode cX2_checkOver 12 = .ok (.istore 4, 2) := by decide +kernel
theorem dX2_checkOver_14 : decode cX2_checkOver 14 = .ok (.aload_n 0, 1) := by decide +kernel
theorem dX2_checkOver_15 : decode cX2_checkOver 15 = .ok (.iload 4, 2) := by decide +kernel
theorem dX2_checkOver_17 : decode cX2_checkOver 17 = .ok (.iload_n 1, 1) := by decide +kernel
theorem dX2_checkOver_18 : decode cX2_checkOver 18 = .ok (.invokevirtual 42, 3) := by decide +kernel
theorem dX2_checkOver_21 : decode cX2_checkOver 21 = .ok (.istore 4, 2) := by decide +kernel
theorem dX2_checkOver_23 : decode cX2_checkOver 23 = .ok (.iconst 0, 1) := by decide +kernel
theorem dX2_checkOver_24 : decode cX2_checkOver 24 = .ok (.istore 5, 2) := by decide +kernel
theorem dX2_checkOver_26 : decode cX2_checkOver 26 = .ok (.iload 5, 2) := by decide +kernel
theorem dX2_checkOver_28 : decode cX2_checkOver 28 = .ok (.iload_n 3, 1) := by decide +kernel
theorem dX2_checkOver_29 : decode cX2_checkOver 29 = .ok (.if_icmp .ge 23, 3) := by decide +kernel
theorem dX2_checkOver_32 : decode cX2_checkOver 32 = .ok (.aload_n 0, 1) := by decide +kernel
theorem dX2_checkOver_33 : decode cX2_checkOver 33 = .ok (.iload 4, 2) := by decide +kernel
theorem dX2_checkOver_35 : decode cX2_checkOver 35 = .ok (.aload_n 2, 1) := by decide +kernel
theorem dX2_checkOver_36 : decode cX2_checkOver 36 = .ok (.iload 5, 2) := by decide +kernel
theorem dX2_checkOver_38 : decode cX2_checkOver 38 = .ok (.invokevirtual 45, 3) := by decide +kernel
theorem dX2_checkOver_41 : decode cX2_checkOver 41 = .ok (.invokevirtual 42, 3) := by decide +kernel
theorem dX2_checkOver_44 : decode cX2_checkOver 44 = .ok (.istore 4, 2) := by decide +kernel
theorem dX2_checkOver_46 : decode cX2_checkOver 46 = .ok (.iinc 5 1, 3) := by decide +kernel
theorem dX2_checkOver_49 : decode cX2_checkOver 49 = .ok (.goto (-23), 3) := by decide +kernel
theorem dX2_checkOver_52 : decode cX2_checkOver 52 = .ok (.iload 4, 2) := by decide +kernel
theorem dX2_checkOver_54 : decode cX2_checkOver 54 = .ok (.aload_n 0, 1) := by decide +kernel
theorem dX2_checkOver_55 : decode cX2_checkOver 55 = .ok (.getfield 21, 3) := by decide +kernel
theorem dX2_checkOver_58 : decode cX2_checkOver 58 = .ok (.ixor, 1) := by decide +kernel
theorem dX2_checkOver_59 : decode cX2_checkOver 59 = .ok (.ireturn, 1) := by decide +kernel
theorem dX2_shifted_0 : decode cX2_shifted 0 = .ok (.iconst (-1), 1) := by decide +kernel
theorem dX2_shifted_1 : decode cX2_shifted 1 = .ok (.bipush 32, 2) := by decide +kernel
theorem dX2_shifted_3 : decode cX2_shifted 3 = .ok (.aload_n 0, 1) := by decide +kernel
theorem dX2_shifted_4 : decode cX2_shifted 4 = .ok (.getfield 9, 3) := by decide +kernel
theorem dX2_shifted_7 : decode cX2_shifted 7 = .ok (.isub, 1) := by decide +kernel
theorem dX2_shifted_8 : decode cX2_shifted 8 = .ok (.iushr, 1) := by decide +kernel
theorem dX2_shifted_9 : decode cX2_shifted 9 = .ok (.istore_n 3, 1) := by decide +kernel
theorem dX2_shifted_10 : decode cX2_shifted 10 = .ok (.iload_n 1, 1) := by decide +kernel
theorem dX2_shifted_11 : decode cX2_shifted 11 = .ok (.istore 4, 2) := by decide +kernel
theorem dX2_shifted_13 : decode cX2_shifted 13 = .ok (.bipush 7, 2) := by decide +kernel
theorem dX2_shifted_15 : decode cX2_shifted 15 = .ok (.istore 5, 2) := by decide +kernel
theorem dX2_shifted_17 : decode cX2_shifted 17 = .ok (.iload 5, 2) := by decide +kernel
theorem dX2_shifted_19 : decode cX2_shifted 19 = .ok (.ifCond .lt 52, 3) := by decide +kernel
theorem dX2_shifted_22 : decode cX2_shifted 22 = .ok (.iload 4, 2) := by decide +kernel
theorem dX2_shifted_24 : decode cX2_shifted 24 = .ok (.aload_n 0, 1) := by decide +kernel
theorem dX2_shifted_25 : decode cX2_shifted 25 = .ok (.getfield 9, 3) := by decide +kernel
theorem dX2_shifted_28 : decode cX2_shifted 28 = .ok (.iconst 1, 1) := by decide +kernel
theorem dX2_shifted_29 : decode cX2_shifted 29 = .ok (.isub, 1) := by decide +kernel
theorem dX2_shifted_30 : decode cX2_shifted 30 = .ok (.iushr, 1) := by decide +kernel
theorem dX2_shifted_31 : decode cX2_shifted 31 = .ok (.istore 6, 2) := by decide +kernel
theorem dX2_shifted_33 : decode cX2_shifted 33 = .ok (.iload_n 2, 1) := by decide +kernel
theorem dX2_shifted_34 : decode cX2_shifted 34 = .ok (.iload 5, 2) := by decide +kernel
theorem dX2_shifted_36 : decode cX2_shifted 36 = .ok (.ishr, 1) := by decide +kernel
theorem dX2_shifted_37 : decode cX2_shifted 37 = .ok (.iconst 1, 1) := by decide +kernel
theorem dX2_shifted_38 : decode cX2_shifted 38 = .ok (.iand, 1) := by decide +kernel
theorem dX2_shifted_39 : decode cX2_shifted 39 = .ok (.istore 7, 2) := by decide +kernel
theorem dX2_shifted_41 : decode cX2_shifted 41 = .ok (.iload 4, 2) := by decide +kernel
theorem dX2_shifted_43 : decode cX2_shifted 43 = .ok (.iconst 1, 1) := by decide +kernel
theorem dX2_shifted_44 : decode cX2_shifted 44 = .ok (.ishl, 1) := by decide +kernel
theorem dX2_shifted_45 : decode cX2_shifted 45 = .ok (.iload_n 3, 1) := by decide +kernel
theorem dX2_shifted_46 : decode cX2_shifted 46 = .ok (.iand, 1) := by decide +kernel
theorem dX2_shifted_47 : decode cX2_shifted 47 = .ok (.istore 4, 2) := by decide +kernel
theorem dX2_shifted_49 : decode cX2_shifted 49 = .ok (.iload 6, 2) := by decide +kernel
theorem dX2_shifted_51 : decode cX2_shifted 51 = .ok (.iload 7, 2) := by decide +kernel
theorem dX2_shifted_53 : decode cX2_shifted 53 = .ok (.if_icmp .eq 12, 3) := by decide +kernel
theorem dX2_shifted_56 : decode cX2_shifted 56 = .ok (.iload 4, 2) := by decide +kernel
theorem dX2_shifted_58 : decode cX2_shifted 58 = .ok (.aload_n 0, 1) := by decide +kernel
theorem dX2_shifted_59 : decode cX2_shifted 59 = .ok (.getfield 15, 3) := by decide +kernel
theorem dX2_shifted_62 : decode cX2_shifted 62 = .ok (.ixor, 1) := by decide +kernel
theorem dX2_shifted_63 : decode cX2_shifted 63 = .ok (.istore 4, 2) := by decide +kernel
theorem dX2_shifted_65 : decode cX2_shifted 65 = .ok (.iinc 5 (-1), 3) := by decide +kernel
theorem dX2_shifted_68 : decode cX2_shifted 68 = .ok (.goto (-51), 3) := by decide +kernel
theorem dX2_shifted_71 : decode cX2_shifted 71 = .ok (.iload 4, 2) := by decide +kernel
theorem dX2_shifted_73 : decode cX2_shifted 73 = .ok (.ireturn, 1) := by decide +kernel
end
section
set_option maxRecDepth 20000 in
theorem ggX3_init_X1_init : GoodIn wsX3_init wsX1_init := goodIn_r _ [11, 12, 2, 3, 13, 14, 15, 16] (by decide +kernel) (by decide +kernel)
set_option maxRecDepth 20000 in
theorem gX3_init_X1_init_n11 : GoodIn wsX3_init (wsX1_init) := ggX3_init_X1_init
theorem dX3_init_0 : decode cX3_init 0 = .ok (.aload_n 0, 1) := by decide +kernel
theorem dX3_init_1 : decode cX3_init 1 = .ok (.invokespecial 3, 3) := by decide +kernel
theorem dX3_init_4 : decode cX3_init 4 = .ok (.aload_n 0, 1) := by decide +kernel
theorem dX3_init_5 : decode cX3_init 5 = .ok (.new 9, 3) := by decide +kernel
theorem dX3_init_8 : decode cX3_init 8 = .ok (.dup, 1) := by decide +kernel
theorem dX3_init_9 : decode cX3_init 9 = .ok (.invokespecial 11, 3) := by decide +kernel
theorem dX3_init_12 : decode cX3_init 12 = .ok (.putfield 12, 3) := by decide +kernel
theorem dX3_init_15 : decode cX3_init 15 = .ok (.aload_n 0, 1) := by decide +kernel
theorem dX3_init_16 : decode cX3_init 16 = .ok (.iconst (-1), 1) := by decide +kernel
theorem dX3_init_17 : decode cX3_init 17 = .ok (.putfield 18, 3) := by decide +kernel
theorem dX3_init_20 : decode cX3_init 20 = .ok (.aload_n 0, 1) := by decide +kernel
theorem dX3_init_21 : decode cX3_init 21 = .ok (.aload_n 1, 1) := by decide +kernel
theorem dX3_init_22 : decode cX3_init 22 = .ok (.putfield 22, 3) := by decide +kernel
theorem dX3_init_25 : decode cX3_init 25 = .ok (.return_, 1) := by decide +kernel
set_option maxRecDepth 20000 in
theorem ggX3_collect_X1_add : GoodIn wsX3_collect wsX1_add := goodIn_r _ [7, 8, 9, 14, 15] (by decide +kernel) (by decide +kernel)
set_option maxRecDepth 20000 in
theorem gX3_collect_X1_add : GoodIn wsX3_collect (wsV RX3 26 RX1 yX1_add wsX1_add) := goodIn_app (goodIn_of _ (by decide +kernel)) ggX3_collect_X1_add
theorem dX3_collect_0 : decode cX3_collect 0 = .ok (.aload_n 0, 1) := by decide +kernel
theorem dX3_collect_1 : decode cX3_collect 1 = .ok (.getfield 12, 3) := by decide +kernel
theorem dX3_collect_4 : decode cX3_collect 4 = .ok (.iload_n 1, 1) := by decide +kernel
theorem dX3_collect_5 : decode cX3_collect 5 = .ok (.invokevirtual 26, 3) := by decide +kernel
theorem dX3_collect_8 : decode cX3_collect 8 = .ok (.ifCond .ne 8, 3) := by decide +kernel
theorem dX3_collect_11 : decode cX3_collect 11 = .ok (.aload_n 0, 1) := by decide +kernel
theorem dX3_collect_12 : decode cX3_collect 12 = .ok (.iconst 1, 1) := by decide +kernel
theorem dX3_collect_13 : decode cX3_collect 13 = .ok (.putfield 30, 3) := by decide +kernel
theorem dX3_collect_16 : decode cX3_collect 16 = .ok (.return_, 1) := by decide +kernel
set_option maxRecDepth 20000 in
theorem ggX3_endRow_X3_isInError : GoodIn wsX3_endRow wsX3_isInError := goodIn_r _ [7, 1, 8, 2, 9, 10, 11, 12, 13, 14, 15, 16, 17, 18, 19, 20, 21, 22, 23, 24, 25, 26, 27, 28, 29, 30, 31, 32, 33, 34, 35, 36, 37, 38, 39, 40, 41, 42, 43, 44, 6, 45, 67, 68, 69, 70, 71, 72, 73, 74, 75, 76, 77, 78] (by decide +kernel) (by decide +kernel)
set_option maxRecDepth 20000 in
theorem gX3_endRow_X3_isInError : GoodIn wsX3_endRow (wsV RX3 34 RX3 yX3_isInError wsX3_isInError) := goodIn_app (goodIn_of _ (by decide +kernel)) ggX3_endRow_X3_isInError
set_option maxRecDepth 20000 in
theorem ggX3_endRow_X3_rowCounter : GoodIn wsX3_endRow wsX3_rowCounter := goodIn_r _ [45, 1, 8, 15, 16, 17, 18, 19, 20, 21, 22, 23, 24, 25, 26, 27, 28, 29, 67, 68, 69, 70, 73, 74, 75, 76, 77, 78, 71, 72] (by decide +kernel) (by decide +kernel)
set_option maxRecDepth 20000 in
theorem gX3_endRow_X3_rowCounter : GoodIn wsX3_endRow (wsV RX3 37 RX3 yX3_rowCounter wsX3_rowCounter) := goodIn_app (goodIn_of _ (by decide +kernel)) ggX3_endRow_X3_rowCounter
set_option maxRecDepth 20000 in
theorem ggX3_endRow_X3_findingOf : GoodIn wsX3_endRow wsX3_findingOf := goodIn_r _ [49, 50, 8, 51, 52, 53, 12, 54, 55, 56, 57, 58, 59, 60, 61, 6, 62, 67, 68, 69, 70, 73, 74, 75, 76, 77, 78] (by decide +kernel) (by decide +kernel)
set_option maxRecDepth 20000 in
theorem gX3_endRow_X3_findingOf : GoodIn wsX3_endRow (wsV RX3 41 RX3 yX3_findingOf wsX3_findingOf) := goodIn_app (goodIn_of _ (by decide +kernel)) ggX3_endRow_X3_findingOf
set_option maxRecDepth 20000 in
theorem ggX3_endRow_X1_clear : GoodIn wsX3_endRow wsX1_clear := goodIn_r _ [66, 29, 71, 72] (by decide +kernel) (by decide +kernel)
set_option maxRecDepth 20000 in
theorem gX3_endRow_X1_clear : GoodIn wsX3_endRow (wsV RX3 45 RX1 yX1_clear wsX1_clear) := goodIn_app (goodIn_of _ (by decide +kernel)) ggX3_endRow_X1_clear
theorem dX3_endRow_0 : decode cX3_endRow 0 = .ok (.aload_n 0, 1) := by decide +kernel
theorem dX3_endRow_1 : decode cX3_endRow 1 = .ok (.iload_n 1, 1) := by decide +kernel
theorem dX3_endRow_2 : decode cX3_endRow 2 = .ok (.invokevirtual 34, 3) := by decide +kernel
theorem dX3_endRow_5 : decode cX3_endRow 5 = .ok (.ifCond .eq 7, 3) := by decide +kernel
theorem dX3_endRow_8 : decode cX3_endRow 8 = .ok (.iconst 4, 1) := by decide +kernel
theorem dX3_endRow_9 : decode cX3_endRow 9 = .ok (.goto 11, 3) := by decide +kernel
theorem dX3_endRow_12 : decode cX3_endRow 12 = .ok (.aload_n 0, 1) := by decide +kernel
theorem dX3_endRow_13 : decode cX3_endRow 13 = .ok (.aload_n 0, 1) := by decide +kernel
theorem dX3_endRow_14 : decode cX3_endRow 14 = .ok (.invokevirtual 37, 3) := by decide +kernel
theorem dX3_endRow_17 : decode cX3_endRow 17 = .ok (.invokevirtual 41, 3) := by decide +kernel
theorem dX3_endRow_20 : decode cX3_endRow 20 = .ok (.istore_n 2, 1) := by decide +kernel
theorem dX3_endRow_21 : decode cX3_endRow 21 = .ok (.aload_n 0, 1) := by decide +kernel
theorem dX3_endRow_22 : decode cX3_endRow 22 = .ok (.getfield 12, 3) := by decide +kernel
theorem dX3_endRow_25 : decode cX3_endRow 25 = .ok (.invokevirtual 45, 3) := by decide +kernel
theorem dX3_endRow_28 : decode cX3_endRow 28 = .ok (.aload_n 0, 1) := by decide +kernel
theorem dX3_endRow_29 : decode cX3_endRow 29 = .ok (.iconst 0, 1) := by decide +kernel
theorem dX3_endRow_30 : decode cX3_endRow 30 = .ok (.putfield 30, 3) := by decide +kernel
theorem dX3_endRow_33 : decode cX3_endRow 33 = .ok (.iload_n 2, 1) := by decide +kernel
theorem dX3_endRow_34 : decode cX3_endRow 34 = .ok (.ireturn, 1) := by decide +kernel
set_option maxRecDepth 20000 in
theorem ggX3_isInError_X2_checkOctets : GoodIn wsX3_isInError wsX2_checkOctets := goodIn_r _ [8, 9, 48, 49, 50, 51, 52, 53] (by decide +kernel) (by decide +kernel)
set_option maxRecDepth 20000 in
theorem gX3_isInError_X2_checkOctets : GoodIn wsX3_isInError (wsV RX3 51 RX2 yX2_checkOctets wsX2_checkOctets) := goodIn_app (goodIn_of _ (by decide +kernel)) ggX3_isInError_X2_checkOctets
set_option maxRecDepth 20000 in
theorem ggX3_isInError_X1_numberAt : GoodIn wsX3_isInError wsX1_numberAt := goodIn_r _ [14, 15, 16, 17, 13, 18, 19, 20, 21, 22, 23, 24, 46, 47] (by decide +kernel) (by decide +kernel)
set_option maxRecDepth 20000 in
theorem gX3_isInError_X1_numberAt : GoodIn wsX3_isInError (wsV RX3 59 RX1 yX1_numberAt wsX1_numberAt) := goodIn_app (goodIn_of _ (by decide +kernel)) ggX3_isInError_X1_numberAt
set_option maxRecDepth 20000 in
theorem ggX3_isInError_X2_checkOver : GoodIn wsX3_isInError wsX2_checkOver := goodIn_r _ [28, 29, 30, 31, 32, 33, 7, 34, 9, 35, 36, 16, 17, 13, 18, 19, 20, 21, 22, 23, 24, 48, 49, 50, 51, 52, 53, 46, 47] (by decide +kernel) (by decide +kernel)
set_option maxRecDepth 20000 in
theorem gX3_isInError_X2_checkOver : GoodIn wsX3_isInError (wsV RX3 63 RX2 yX2_checkOver wsX2_checkOver) := goodIn_app (goodIn_of _ (by decide +kernel)) ggX3_isInError_X2_checkOver
set_option maxRecDepth 20000 in
theorem ggX3_isInError_X3_rowCounter : GoodIn wsX3_isInError wsX3_rowCounter := goodIn_r _ [41, 1, 2, 10, 11, 12, 13, 14, 15, 16, 17, 18, 19, 20, 21, 22, 23, 24, 42, 43, 44, 45, 48, 49, 50, 51, 52, 53, 46, 47] (by decide +kernel) (by decide +kernel)
set_option maxRecDepth 20000 in
theorem gX3_isInError_X3_rowCounter : GoodIn wsX3_isInError (wsV RX3 37 RX3 yX3_rowCounter wsX3_rowCounter) := goodIn_app (goodIn_of _ (by decide +kernel)) ggX3_isInError_X3_rowCounter
theorem dX3_isInError_0 : decode cX3_isInError 0 = .ok (.aload_n 0, 1) := by decide +kernel
theorem dX3_isInError_1 : decode cX3_isInError 1 = .ok (.getfield 12, 3) := by decide +kernel
theorem dX3_isInError_4 : decode cX3_isInError 4 = .ok (.getfield 48, 3) := by decide +kernel
theorem dX3_isInError_7 : decode cX3_isInError 7 = .ok (.aload_n 0, 1) := by decide +kernel
theorem dX3_isInError_8 : decode cX3_isInError 8 = .ok (.getfield 22, 3) := by decide +kernel
theorem dX3_isInError_11 : decode cX3_isInError 11 = .ok (.invokevirtual 51, 3) := by decide +kernel
theorem dX3_isInError_14 : decode cX3_isInError 14 = .ok (.isub, 1) := by decide +kernel
theorem dX3_isInError_15 : decode cX3_isInError 15 = .ok (.istore_n 2, 1) := by decide +kernel
theorem dX3_isInError_16 : decode cX3_isInError 16 = .ok (.aload_n 0, 1) := by decide +kernel
theorem dX3_isInError_17 : decode cX3_isInError 17 = .ok (.getfield 30, 3) := by decide +kernel
theorem dX3_isInError_20 : decode cX3_isInError 20 = .ok (.ifCond .ne 14, 3) := by decide +kernel
theorem dX3_isInError_23 : decode cX3_isInError 23 = .ok (.iload_n 2, 1) := by decide +kernel
theorem dX3_isInError_24 : decode cX3_isInError 24 = .ok (.aload_n 0, 1) := by decide +kernel
theorem dX3_isInError_25 : decode cX3_isInError 25 = .ok (.getfield 22, 3) := by decide +kernel
theorem dX3_isInError_28 : decode cX3_isInError 28 = .ok (.getfield 56, 3) := by decide +kernel
theorem dX3_isInError_31 : decode cX3_isInError 31 = .ok (.if_icmp .ge 5, 3) := by decide +kernel
theorem dX3_isInError_34 : decode cX3_isInError 34 = .ok (.iconst 1, 1) := by decide +kernel
theorem dX3_isInError_35 : decode cX3_isInError 35 = .ok (.ireturn, 1) := by decide +kernel
theorem dX3_isInError_36 : decode cX3_isInError 36 = .ok (.aload_n 0, 1) := by decide +kernel
theorem dX3_isInError_37 : decode cX3_isInError 37 = .ok (.getfield 12, 3) := by decide +kernel
theorem dX3_isInError_40 : decode cX3_isInError 40 = .ok (.iload_n 2, 1) := by decide +kernel
theorem dX3_isInError_41 : decode cX3_isInError 41 = .ok (.aload_n 0, 1) := by decide +kernel
theorem dX3_isInError_42 : decode cX3_isInError 42 = .ok (.getfield 22, 3) := by decide +kernel
theorem dX3_isInError_45 : decode cX3_isInError 45 = .ok (.invokevirtual 51, 3) := by decide +kernel
theorem dX3_isInError_48 : decode cX3_isInError 48 = .ok (.invokevirtual 59, 3) := by decide +kernel
theorem dX3_isInError_51 : decode cX3_isInError 51 = .ok (.istore_n 3, 1) := by decide +kernel
theorem dX3_isInError_52 : decode cX3_isInError 52 = .ok (.iload_n 3, 1) := by decide +kernel
theorem dX3_isInError_53 : decode cX3_isInError 53 = .ok (.aload_n 0, 1) := by decide +kernel
theorem dX3_isInError_54 : decode cX3_isInError 54 = .ok (.getfield 22, 3) := by decide +kernel
theorem dX3_isInError_57 : decode cX3_isInError 57 = .ok (.iload_n 1, 1) := by decide +kernel
theorem dX3_isInError_58 : decode cX3_isInError 58 = .ok (.aload_n 0, 1) := by decide +kernel
theorem dX3_isInError_59 : decode cX3_isInError 59 = .ok (.getfield 12, 3) := by decide +kernel
theorem dX3_isInError_62 : decode cX3_isInError 62 = .ok (.iload_n 2, 1) := by decide +kernel
theorem dX3_isInError_63 : decode cX3_isInError 63 = .ok (.invokevirtual 63, 3) := by decide +kernel
theorem dX3_isInError_66 : decode cX3_isInError 66 = .ok (.if_icmp .ne 17, 3) := by decide +kernel
theorem dX3_isInError_69 : decode cX3_isInError 69 = .ok (.aload_n 0, 1) := by decide +kernel
theorem dX3_isInError_70 : decode cX3_isInError 70 = .ok (.invokevirtual 37, 3) := by decide +kernel
theorem dX3_isInError_73 : decode cX3_isInError 73 = .ok (.aload_n 0, 1) := by decide +kernel
theorem dX3_isInError_74 : decode cX3_isInError 74 = .ok (.getfield 22, 3) := by decide +kernel
theorem dX3_isInError_77 : decode cX3_isInError 77 = .ok (.getfield 67, 3) := by decide +kernel
theorem dX3_isInError_80 : decode cX3_isInError 80 = .ok (.if_icmp .lt 7, 3) := by decide +kernel
theorem dX3_isInError_83 : decode cX3_isInError 83 = .ok (.iconst 1, 1) := by decide +kernel
theorem dX3_isInError_84 : decode cX3_isInError 84 = .ok (.goto 4, 3) := by decide +kernel
theorem dX3_isInError_87 : decode cX3_isInError 87 = .ok (.iconst 0, 1) := by decide +kernel
theorem dX3_isInError_88 : decode cX3_isInError 88 = .ok (.ireturn, 1) := by decide +kernel
set_option maxRecDepth 20000 in
theorem ggX3_rowCounter_X1_numberAt : GoodIn wsX3_rowCounter wsX1_numberAt := goodIn_r _ [7, 8, 9, 10, 6, 11, 12, 13, 14, 15, 16, 17, 28, 29] (by decide +kernel) (by decide +kernel)
set_option maxRecDepth 20000 in
theorem gX3_rowCounter_X1_numberAt : GoodIn wsX3_rowCounter (wsV RX3 59 RX1 yX1_numberAt wsX1_numberAt) := goodIn_app (goodIn_of _ (by decide +kernel)) ggX3_rowCounter_X1_numberAt
theorem dX3_rowCounter_0 : decode cX3_rowCounter 0 = .ok (.aload_n 0, 1) := by decide +kernel
theorem dX3_rowCounter_1 : decode cX3_rowCounter 1 = .ok (.getfield 12, 3) := by decide +kernel
theorem dX3_rowCounter_4 : decode cX3_rowCounter 4 = .ok (.iconst 0, 1) := by decide +kernel
theorem dX3_rowCounter_5 : decode cX3_rowCounter 5 = .ok (.aload_n 0, 1) := by decide +kernel
theorem dX3_rowCounter_6 : decode cX3_rowCounter 6 = .ok (.getfield 22, 3) := by decide +kernel
theorem dX3_rowCounter_9 : decode cX3_rowCounter 9 = .ok (.getfield 56, 3) := by decide +kernel
theorem dX3_rowCounter_12 : decode cX3_rowCounter 12 = .ok (.invokevirtual 59, 3) := by decide +kernel
theorem dX3_rowCounter_15 : decode cX3_rowCounter 15 = .ok (.ireturn, 1) := by decide +kernel
set_option maxRecDepth 20000 in
theorem ggX3_findingOf_X2_goingRound : GoodIn wsX3_findingOf wsX2_goingRound := goodIn_r _ [7, 8, 9, 10, 11, 12, 21, 22, 23, 24, 25, 26] (by decide +kernel) (by decide +kernel)
set_option maxRecDepth 20000 in
theorem gX3_findingOf_X2_goingRound : GoodIn wsX3_findingOf (wsV RX3 70 RX2 yX2_goingRound wsX2_goingRound) := goodIn_app (goodIn_of _ (by decide +kernel)) ggX3_findingOf_X2_goingRound
set_option maxRecDepth 20000 in
theorem ggX3_findingOf_X3_findingOfSteps : GoodIn wsX3_findingOf wsX3_findingOfSteps := goodIn_r _ [16] (by decide +kernel) (by decide +kernel)
set_option maxRecDepth 20000 in
theorem gX3_findingOf_X3_findingOfSteps : GoodIn wsX3_findingOf (va_wsS RX3 73 yX3_findingOfSteps wsX3_findingOfSteps) := goodIn_app (goodIn_of _ (by decide +kernel)) ggX3_findingOf_X3_findingOfSteps
theorem dX3_findingOf_0 : decode cX3_findingOf 0 = .ok (.aload_n 0, 1) := by decide +kernel
theorem dX3_findingOf_1 : decode cX3_findingOf 1 = .ok (.getfield 18, 3) := by decide +kernel
theorem dX3_findingOf_4 : decode cX3_findingOf 4 = .ok (.istore_n 2, 1) := by decide +kernel
theorem dX3_findingOf_5 : decode cX3_findingOf 5 = .ok (.aload_n 0, 1) := by decide +kernel
theorem dX3_findingOf_6 : decode cX3_findingOf 6 = .ok (.iload_n 1, 1) := by decide +kernel
theorem dX3_findingOf_7 : decode cX3_findingOf 7 = .ok (.putfield 18, 3) := by decide +kernel
theorem dX3_findingOf_10 : decode cX3_findingOf 10 = .ok (.iload_n 2, 1) := by decide +kernel
theorem dX3_findingOf_11 : decode cX3_findingOf 11 = .ok (.iconst (-1), 1) := by decide +kernel
theorem dX3_findingOf_12 : decode cX3_findingOf 12 = .ok (.if_icmp .ne 7, 3) := by decide +kernel
theorem dX3_findingOf_15 : decode cX3_findingOf 15 = .ok (.iconst 5, 1) := by decide +kernel
theorem dX3_findingOf_16 : decode cX3_findingOf 16 = .ok (.goto 16, 3) := by decide +kernel
theorem dX3_findingOf_19 : decode cX3_findingOf 19 = .ok (.aload_n 0, 1) := by decide +kernel
theorem dX3_findingOf_20 : decode cX3_findingOf 20 = .ok (.getfield 22, 3) := by decide +kernel
theorem dX3_findingOf_23 : decode cX3_findingOf 23 = .ok (.iload_n 1, 1) := by decide +kernel
theorem dX3_findingOf_24 : decode cX3_findingOf 24 = .ok (.iload_n 2, 1) := by decide +kernel
theorem dX3_findingOf_25 : decode cX3_findingOf 25 = .ok (.isub, 1) := by decide +kernel
theorem dX3_findingOf_26 : decode cX3_findingOf 26 = .ok (.invokevirtual 70, 3) := by decide +kernel
theorem dX3_findingOf_29 : decode cX3_findingOf 29 = .ok (.invokestatic 73, 3) := by decide +kernel
theorem dX3_findingOf_32 : decode cX3_findingOf 32 = .ok (.ireturn, 1) := by decide +kernel
theorem dX3_findingOfSteps_0 : decode cX3_findingOfSteps 0 = .ok (.iload_n 0, 1) := by decide +kernel
theorem dX3_findingOfSteps_1 : decode cX3_findingOfSteps 1 = .ok (.ifCond .ne 5, 3) := by decide +kernel
theorem dX3_findingOfSteps_4 : decode cX3_findingOfSteps 4 = .ok (.iconst 1, 1) := by decide +kernel
theorem dX3_findingOfSteps_5 : decode cX3_findingOfSteps 5 = .ok (.ireturn, 1) := by decide +kernel
theorem dX3_findingOfSteps_6 : decode cX3_findingOfSteps 6 = .ok (.iload_n 0, 1) := by decide +kernel
theorem dX3_findingOfSteps_7 : decode cX3_findingOfSteps 7 = .ok (.iconst 1, 1) := by decide +kernel
theorem dX3_findingOfSteps_8 : decode cX3_findingOfSteps 8 = .ok (.if_icmp .ne 5, 3) := by decide +kernel
theorem dX3_findingOfSteps_11 : decode cX3_findingOfSteps 11 = .ok (.iconst 0, 1) := by decide +kernel
theorem dX3_findingOfSteps_12 : decode cX3_findingOfSteps 12 = .ok (.ireturn, 1) := by decide +kernel
theorem dX3_findingOfSteps_13 : decode cX3_findingOfSteps 13 = .ok (.iload_n 0, 1) := by decide +kernel
theorem dX3_findingOfSteps_14 : decode cX3_findingOfSteps 14 = .ok (.iconst 3, 1) := by decide +kernel
theorem dX3_findingOfSteps_15 : decode cX3_findingOfSteps 15 = .ok (.if_icmp .gt 7, 3) := by decide +kernel
theorem dX3_findingOfSteps_18 : decode cX3_findingOfSteps 18 = .ok (.iconst 2, 1) := by decide +kernel
theorem dX3_findingOfSteps_19 : decode cX3_findingOfSteps 19 = .ok (.goto 4, 3) := by decide +kernel
theorem dX3_findingOfSteps_22 : decode cX3_findingOfSteps 22 = .ok (.iconst 3, 1) := by decide +kernel
theorem dX3_findingOfSteps_23 : decode cX3_findingOfSteps 23 = .ok (.ireturn, 1) := by decide +kernel
set_option maxRecDepth 20000 in
theorem ggX4_init_X1_init : GoodIn wsX4_init wsX1_init := goodIn_r _ [11, 12, 2, 3, 13, 14, 15, 16] (by decide +kernel) (by decide +kernel)
set_option maxRecDepth 20000 in
theorem gX4_init_X1_init_n11 : GoodIn wsX4_init (wsX1_init) := ggX4_init_X1_init
theorem dX4_init_0 : decode cX4_init 0 = .ok (.aload_n 0, 1) := by decide +kernel
theorem dX4_init_1 : decode cX4_init 1 = .ok (.invokespecial 3, 3) := by decide +kernel
theorem dX4_init_4 : decode cX4_init 4 = .ok (.aload_n 0, 1) := by decide +kernel
theorem dX4_init_5 : decode cX4_init 5 = .ok (.new 9, 3) := by decide +kernel
theorem dX4_init_8 : decode cX4_init 8 = .ok (.dup, 1) := by decide +kernel
theorem dX4_init_9 : decode cX4_init 9 = .ok (.invokespecial 11, 3) := by decide +kernel
theorem dX4_init_12 : decode cX4_init 12 = .ok (.putfield 12, 3) := by decide +kernel
theorem dX4_init_15 : decode cX4_init 15 = .ok (.aload_n 0, 1) := by decide +kernel
theorem dX4_init_16 : decode cX4_init 16 = .ok (.new 9, 3) := by decide +kernel
theorem dX4_init_19 : decode cX4_init 19 = .ok (.dup, 1) := by decide +kernel
theorem dX4_init_20 : decode cX4_init 20 = .ok (.invokespecial 11, 3) := by decide +kernel
theorem dX4_init_23 : decode cX4_init 23 = .ok (.putfield 18, 3) := by decide +kernel
theorem dX4_init_26 : decode cX4_init 26 = .ok (.aload_n 0, 1) := by decide +kernel
theorem dX4_init_27 : decode cX4_init 27 = .ok (.aload_n 1, 1) := by decide +kernel
theorem dX4_init_28 : decode cX4_init 28 = .ok (.putfield 21, 3) := by decide +kernel
theorem dX4_init_31 : decode cX4_init 31 = .ok (.return_, 1) := by decide +kernel
set_option maxRecDepth 20000 in
theorem ggX4_collect_X1_add : GoodIn wsX4_collect wsX1_add := goodIn_r _ [6, 7, 8, 16, 17] (by decide +kernel) (by decide +kernel)
set_option maxRecDepth 20000 in
theorem gX4_collect_X1_add : GoodIn wsX4_collect (wsV RX4 29 RX1 yX1_add wsX1_add) := goodIn_app (goodIn_of _ (by decide +kernel)) ggX4_collect_X1_add
theorem dX4_collect_0 : decode cX4_collect 0 = .ok (.aload_n 0, 1) := by decide +kernel
theorem dX4_collect_1 : decode cX4_collect 1 = .ok (.getfield 12, 3) := by decide +kernel
theorem dX4_collect_4 : decode cX4_collect 4 = .ok (.getfield 25, 3) := by decide +kernel
theorem dX4_collect_7 : decode cX4_collect 7 = .ok (.bipush 64, 2) := by decide +kernel
theorem dX4_collect_9 : decode cX4_collect 9 = .ok (.if_icmp .ge 12, 3) := by decide +kernel
theorem dX4_collect_12 : decode cX4_collect 12 = .ok (.aload_n 0, 1) := by decide +kernel
theorem dX4_collect_13 : decode cX4_collect 13 = .ok (.getfield 12, 3) := by decide +kernel
theorem dX4_collect_16 : decode cX4_collect 16 = .ok (.iload_n 1, 1) := by decide +kernel
theorem dX4_collect_17 : decode cX4_collect 17 = .ok (.invokevirtual 29, 3) := by decide +kernel
theorem dX4_collect_20 : decode cX4_collect 20 = .ok (.pop, 1) := by decide +kernel
theorem dX4_collect_21 : decode cX4_collect 21 = .ok (.return_, 1) := by decide +kernel
theorem dX4_plantFlip_0 : decode cX4_plantFlip 0 = .ok (.aload_n 0, 1) := by decide +kernel
theorem dX4_plantFlip_1 : decode cX4_plantFlip 1 = .ok (.iload_n 1, 1) := by decide +kernel
theorem dX4_plantFlip_2 : decode cX4_plantFlip 2 = .ok (.putfield 33, 3) := by decide +kernel
theorem dX4_plantFlip_5 : decode cX4_plantFlip 5 = .ok (.aload_n 0, 1) := by decide +kernel
theorem dX4_plantFlip_6 : decode cX4_plantFlip 6 = .ok (.iload_n 2, 1) := by decide +kernel
theorem dX4_plantFlip_7 : decode cX4_plantFlip 7 = .ok (.putfield 36, 3) := by decide +kernel
theorem dX4_plantFlip_10 : decode cX4_plantFlip 10 = .ok (.return_, 1) := by decide +kernel
theorem dX4_plantSkip_0 : decode cX4_plantSkip 0 = .ok (.aload_n 0, 1) := by decide +kernel
theorem dX4_plantSkip_1 : decode cX4_plantSkip 1 = .ok (.iload_n 1, 1) := by decide +kernel
theorem dX4_plantSkip_2 : decode cX4_plantSkip 2 = .ok (.putfield 39, 3) := by decide +kernel
theorem dX4_plantSkip_5 : decode cX4_plantSkip 5 = .ok (.return_, 1) := by decide +kernel
set_option maxRecDepth 20000 in
theorem ggX4_makeRow_X2_goingRound : GoodIn wsX4_makeRow wsX2_goingRound := goodIn_r _ [12, 13, 14, 15, 16, 17, 73, 74, 75, 76, 77, 78] (by decide +kernel) (by decide +kernel)
set_option maxRecDepth 20000 in
theorem gX4_makeRow_X2_goingRound : GoodIn wsX4_makeRow (wsV RX4 45 RX2 yX2_goingRound wsX2_goingRound) := goodIn_app (goodIn_of _ (by decide +kernel)) ggX4_makeRow_X2_goingRound
set_option maxRecDepth 20000 in
theorem ggX4_makeRow_X1_clear : GoodIn wsX4_makeRow wsX1_clear := goodIn_r _ [22, 23, 79, 80] (by decide +kernel) (by decide +kernel)
set_option maxRecDepth 20000 in
theorem gX4_makeRow_X1_clear : GoodIn wsX4_makeRow (wsV RX4 51 RX1 yX1_clear wsX1_clear) := goodIn_app (goodIn_of _ (by decide +kernel)) ggX4_makeRow_X1_clear
set_option maxRecDepth 20000 in
theorem ggX4_makeRow_X1_addNumber : GoodIn wsX4_makeRow wsX1_addNumber := goodIn_r _ [27, 28, 29, 30, 21, 31, 23, 32, 79, 80] (by decide +kernel) (by decide +kernel)
set_option maxRecDepth 20000 in
theorem gX4_makeRow_X1_addNumber : GoodIn wsX4_makeRow (wsV RX4 57 RX1 yX1_addNumber wsX1_addNumber) := goodIn_app (goodIn_of _ (by decide +kernel)) ggX4_makeRow_X1_addNumber
set_option maxRecDepth 20000 in
theorem ggX4_makeRow_X1_addAll : GoodIn wsX4_makeRow wsX1_addAll := goodIn_r _ [36, 23, 37, 38, 39, 21, 40, 32, 41, 42, 43, 44, 28, 29, 30, 31, 79, 80] (by decide +kernel) (by decide +kernel)
set_option maxRecDepth 20000 in
theorem gX4_makeRow_X1_addAll : GoodIn wsX4_makeRow (wsV RX4 61 RX1 yX1_addAll wsX1_addAll) := goodIn_app (goodIn_of _ (by decide +kernel)) ggX4_makeRow_X1_addAll
set_option maxRecDepth 20000 in
theorem ggX4_makeRow_X2_checkOver : GoodIn wsX4_makeRow wsX2_checkOver := goodIn_r _ [48, 49, 50, 51, 52, 53, 11, 54, 55, 56, 57, 38, 39, 21, 40, 32, 41, 42, 43, 44, 23, 73, 74, 75, 76, 77, 78, 79, 80] (by decide +kernel) (by decide +kernel)
set_option maxRecDepth 20000 in
theorem gX4_makeRow_X2_checkOver : GoodIn wsX4_makeRow (wsV RX4 65 RX2 yX2_checkOver wsX2_checkOver) := goodIn_app (goodIn_of _ (by decide +kernel)) ggX4_makeRow_X2_checkOver
set_option maxRecDepth 20000 in
theorem ggX4_makeRow_X2_checkOctets : GoodIn wsX4_makeRow wsX2_checkOctets := goodIn_r _ [61, 55, 73, 74, 75, 76, 77, 78] (by decide +kernel) (by decide +kernel)
set_option maxRecDepth 20000 in
theorem gX4_makeRow_X2_checkOctets : GoodIn wsX4_makeRow (wsV RX4 69 RX2 yX2_checkOctets wsX2_checkOctets) := goodIn_app (goodIn_of _ (by decide +kernel)) ggX4_makeRow_X2_checkOctets
set_option maxRecDepth 20000 in
theorem ggX4_makeRow_X1_flip : GoodIn wsX4_makeRow wsX1_flip := goodIn_r _ [65, 32, 41, 42, 43, 21, 44, 23, 79, 80] (by decide +kernel) (by decide +kernel)
set_option maxRecDepth 20000 in
theorem gX4_makeRow_X1_flip : GoodIn wsX4_makeRow (wsV RX4 73 RX1 yX1_flip wsX1_flip) := goodIn_app (goodIn_of _ (by decide +kernel)) ggX4_makeRow_X1_flip
theorem dX4_makeRow_0 : decode cX4_makeRow 0 = .ok (.aload_n 0, 1) := by decide +kernel
theorem dX4_makeRow_1 : decode cX4_makeRow 1 = .ok (.getfield 21, 3) := by decide +kernel
theorem dX4_makeRow_4 : decode cX4_makeRow 4 = .ok (.aload_n 0, 1) := by decide +kernel
theorem dX4_makeRow_5 : decode cX4_makeRow 5 = .ok (.getfield 42, 3) := by decide +kernel
theorem dX4_makeRow_8 : decode cX4_makeRow 8 = .ok (.aload_n 0, 1) := by decide +kernel
theorem dX4_makeRow_9 : decode cX4_makeRow 9 = .ok (.getfield 39, 3) := by decide +kernel
theorem dX4_makeRow_12 : decode cX4_makeRow 12 = .ok (.iadd, 1) := by decide +kernel
theorem dX4_makeRow_13 : decode cX4_makeRow 13 = .ok (.invokevirtual 45, 3) := by decide +kernel
theorem dX4_makeRow_16 : decode cX4_makeRow 16 = .ok (.istore_n 2, 1) := by decide +kernel
theorem dX4_makeRow_17 : decode cX4_makeRow 17 = .ok (.aload_n 0, 1) := by decide +kernel
theorem dX4_makeRow_18 : decode cX4_makeRow 18 = .ok (.getfield 18, 3) := by decide +kernel
theorem dX4_makeRow_21 : decode cX4_makeRow 21 = .ok (.invokevirtual 51, 3) := by decide +kernel
theorem dX4_makeRow_24 : decode cX4_makeRow 24 = .ok (.aload_n 0, 1) := by decide +kernel
theorem dX4_makeRow_25 : decode cX4_makeRow 25 = .ok (.getfield 18, 3) := by decide +kernel
theorem dX4_makeRow_28 : decode cX4_makeRow 28 = .ok (.iload_n 2, 1) := by decide +kernel
theorem dX4_makeRow_29 : decode cX4_makeRow 29 = .ok (.aload_n 0, 1) := by decide +kernel
theorem dX4_makeRow_30 : decode cX4_makeRow 30 = .ok (.getfield 21, 3) := by decide +kernel
theorem dX4_makeRow_33 : decode cX4_makeRow 33 = .ok (.getfield 54, 3) := by decide +kernel
theorem dX4_makeRow_36 : decode cX4_makeRow 36 = .ok (.invokevirtual 57, 3) := by decide +kernel
theorem dX4_makeRow_39 : decode cX4_makeRow 39 = .ok (.aload_n 0, 1) := by decide +kernel
theorem dX4_makeRow_40 : decode cX4_makeRow 40 = .ok (.getfield 18, 3) := by decide +kernel
theorem dX4_makeRow_43 : decode cX4_makeRow 43 = .ok (.aload_n 0, 1) := by decide +kernel
theorem dX4_makeRow_44 : decode cX4_makeRow 44 = .ok (.getfield 12, 3) := by decide +kernel
theorem dX4_makeRow_47 : decode cX4_makeRow 47 = .ok (.invokevirtual 61, 3) := by decide +kernel
theorem dX4_makeRow_50 : decode cX4_makeRow 50 = .ok (.aload_n 0, 1) := by decide +kernel
theorem dX4_makeRow_51 : decode cX4_makeRow 51 = .ok (.getfield 18, 3) := by decide +kernel
theorem dX4_makeRow_54 : decode cX4_makeRow 54 = .ok (.aload_n 0, 1) := by decide +kernel
theorem dX4_makeRow_55 : decode cX4_makeRow 55 = .ok (.getfield 21, 3) := by decide +kernel
theorem dX4_makeRow_58 : decode cX4_makeRow 58 = .ok (.iload_n 1, 1) := by decide +kernel
theorem dX4_makeRow_59 : decode cX4_makeRow 59 = .ok (.aload_n 0, 1) := by decide +kernel
theorem dX4_makeRow_60 : decode cX4_makeRow 60 = .ok (.getfield 18, 3) := by decide +kernel
theorem dX4_makeRow_63 : decode cX4_makeRow 63 = .ok (.aload_n 0, 1) := by decide +kernel
theorem dX4_makeRow_64 : decode cX4_makeRow 64 = .ok (.getfield 18, 3) := by decide +kernel
theorem dX4_makeRow_67 : decode cX4_makeRow 67 = .ok (.getfield 25, 3) := by decide +kernel
theorem dX4_makeRow_70 : decode cX4_makeRow 70 = .ok (.invokevirtual 65, 3) := by decide +kernel
theorem dX4_makeRow_73 : decode cX4_makeRow 73 = .ok (.aload_n 0, 1) := by decide +kernel
theorem dX4_makeRow_74 : decode cX4_makeRow 74 = .ok (.getfield 21, 3) := by decide +kernel
theorem dX4_makeRow_77 : decode cX4_makeRow 77 = .ok (.invokevirtual 69, 3) := by decide +kernel
theorem dX4_makeRow_80 : decode cX4_makeRow 80 = .ok (.invokevirtual 57, 3) := by decide +kernel
theorem dX4_makeRow_83 : decode cX4_makeRow 83 = .ok (.aload_n 0, 1) := by decide +kernel
theorem dX4_makeRow_84 : decode cX4_makeRow 84 = .ok (.getfield 18, 3) := by decide +kernel
theorem dX4_makeRow_87 : decode cX4_makeRow 87 = .ok (.aload_n 0, 1) := by decide +kernel
theorem dX4_makeRow_88 : decode cX4_makeRow 88 = .ok (.getfield 33, 3) := by decide +kernel
theorem dX4_makeRow_91 : decode cX4_makeRow 91 = .ok (.aload_n 0, 1) := by decide +kernel
theorem dX4_makeRow_92 : decode cX4_makeRow 92 = .ok (.getfield 36, 3) := by decide +kernel
theorem dX4_makeRow_95 : decode cX4_makeRow 95 = .ok (.invokevirtual 73, 3) := by decide +kernel
theorem dX4_makeRow_98 : decode cX4_makeRow 98 = .ok (.aload_n 0, 1) := by decide +kernel
theorem dX4_makeRow_99 : decode cX4_makeRow 99 = .ok (.aload_n 0, 1) := by decide +kernel
theorem dX4_makeRow_100 : decode cX4_makeRow 100 = .ok (.getfield 21, 3) := by decide +kernel
theorem dX4_makeRow_103 : decode cX4_makeRow 103 = .ok (.iload_n 2, 1) := by decide +kernel
theorem dX4_makeRow_104 : decode cX4_makeRow 104 = .ok (.iconst 1, 1) := by decide +kernel
theorem dX4_makeRow_105 : decode cX4_makeRow 105 = .ok (.iadd, 1) := by decide +kernel
theorem dX4_makeRow_106 : decode cX4_makeRow 106 = .ok (.invokevirtual 45, 3) := by decide +kernel
theorem dX4_makeRow_109 : decode cX4_makeRow 109 = .ok (.putfield 42, 3) := by decide +kernel
theorem dX4_makeRow_112 : decode cX4_makeRow 112 = .ok (.aload_n 0, 1) := by decide +kernel
theorem dX4_makeRow_113 : decode cX4_makeRow 113 = .ok (.getfield 12, 3) := by decide +kernel
theorem dX4_makeRow_116 : decode cX4_makeRow 116 = .ok (.invokevirtual 51, 3) := by decide +kernel
theorem dX4_makeRow_119 : decode cX4_makeRow 119 = .ok (.aload_n 0, 1) := by decide +kernel
theorem dX4_makeRow_120 : decode cX4_makeRow 120 = .ok (.iconst 0, 1) := by decide +kernel
theorem dX4_makeRow_121 : decode cX4_makeRow 121 = .ok (.putfield 36, 3) := by decide +kernel
theorem dX4_makeRow_124 : decode cX4_makeRow 124 = .ok (.aload_n 0, 1) := by decide +kernel
theorem dX4_makeRow_125 : decode cX4_makeRow 125 = .ok (.iconst 0, 1) := by decide +kernel
theorem dX4_makeRow_126 : decode cX4_makeRow 126 = .ok (.putfield 39, 3) := by decide +kernel
theorem dX4_makeRow_129 : decode cX4_makeRow 129 = .ok (.aload_n 0, 1) := by decide +kernel
theorem dX4_makeRow_130 : decode cX4_makeRow 130 = .ok (.getfield 18, 3) := by decide +kernel
theorem dX4_makeRow_133 : decode cX4_makeRow 133 = .ok (.getfield 25, 3) := by decide +kernel
theorem dX4_makeRow_136 : decode cX4_makeRow 136 = .ok (.ireturn, 1) := by decide +kernel
set_option maxRecDepth 20000 in
theorem ggX5_init_X2_numbered : GoodIn wsX5_init wsX2_numbered := goodIn_r _ [19, 20, 21, 18, 22, 23, 24, 25, 26, 27, 28, 2, 3, 29, 30, 31, 32, 33, 34, 85, 86, 87, 88, 89, 90] (by decide +kernel) (by decide +kernel)
set_option maxRecDepth 20000 in
theorem gX5_init_X2_numbered : GoodIn wsX5_init (va_wsS RX5 7 yX2_numbered wsX2_numbered) := goodIn_app (goodIn_of _ (by decide +kernel)) ggX5_init_X2_numbered
set_option maxRecDepth 20000 in
theorem ggX5_init_X4_init : GoodIn wsX5_init wsX4_init := goodIn_r _ [37, 38, 2, 3, 39, 40, 41, 42, 43, 44, 45, 46, 47, 48, 49, 91, 92, 64, 65, 66, 67, 68, 69, 70] (by decide +kernel) (by decide +kernel)
set_option maxRecDepth 20000 in
theorem gX5_init_X4_init : GoodIn wsX5_init (wsX4_init) := ggX5_init_X4_init
set_option maxRecDepth 20000 in
theorem ggX5_init_X3_init : GoodIn wsX5_init wsX3_init := goodIn_r _ [52, 53, 2, 3, 54, 40, 41, 55, 56, 57, 45, 46, 47, 48, 49, 91, 92, 76, 77, 78, 79] (by decide +kernel) (by decide +kernel)
set_option maxRecDepth 20000 in
theorem gX5_init_X3_init : GoodIn wsX5_init (wsX3_init) := ggX5_init_X3_init
set_option maxRecDepth 20000 in
theorem ggX5_init_X0_init : GoodIn wsX5_init wsX0_init := goodIn_r _ [59, 60, 2, 3, 61, 62, 63, 80, 81, 82, 83, 84] (by decide +kernel) (by decide +kernel)
set_option maxRecDepth 20000 in
theorem gX5_init_X0_init_n33 : GoodIn wsX5_init (wsX0_init) := ggX5_init_X0_init
theorem dX5_init_0 : decode cX5_init 0 = .ok (.aload_n 0, 1) := by decide +kernel
theorem dX5_init_1 : decode cX5_init 1 = .ok (.invokespecial 1, 3) := by decide +kernel
theorem dX5_init_4 : decode cX5_init 4 = .ok (.iload_n 1, 1) := by decide +kernel
theorem dX5_init_5 : decode cX5_init 5 = .ok (.invokestatic 7, 3) := by decide +kernel
theorem dX5_init_8 : decode cX5_init 8 = .ok (.astore_n 2, 1) := by decide +kernel
theorem dX5_init_9 : decode cX5_init 9 = .ok (.aload_n 0, 1) := by decide +kernel
theorem dX5_init_10 : decode cX5_init 10 = .ok (.new 13, 3) := by decide +kernel
theorem dX5_init_13 : decode cX5_init 13 = .ok (.dup, 1) := by decide +kernel
theorem dX5_init_14 : decode cX5_init 14 = .ok (.aload_n 2, 1) := by decide +kernel
theorem dX5_init_15 : decode cX5_init 15 = .ok (.invokespecial 15, 3) := by decide +kernel
theorem dX5_init_18 : decode cX5_init 18 = .ok (.putfield 18, 3) := by decide +kernel
theorem dX5_init_21 : decode cX5_init 21 = .ok (.aload_n 0, 1) := by decide +kernel
theorem dX5_init_22 : decode cX5_init 22 = .ok (.new 24, 3) := by decide +kernel
theorem dX5_init_25 : decode cX5_init 25 = .ok (.dup, 1) := by decide +kernel
theorem dX5_init_26 : decode cX5_init 26 = .ok (.aload_n 2, 1) := by decide +kernel
theorem dX5_init_27 : decode cX5_init 27 = .ok (.invokespecial 26, 3) := by decide +kernel
theorem dX5_init_30 : decode cX5_init 30 = .ok (.putfield 27, 3) := by decide +kernel
theorem dX5_init_33 : decode cX5_init 33 = .ok (.aload_n 0, 1) := by decide +kernel
theorem dX5_init_34 : decode cX5_init 34 = .ok (.new 31, 3) := by decide +kernel
theorem dX5_init_37 : decode cX5_init 37 = .ok (.dup, 1) := by decide +kernel
theorem dX5_init_38 : decode cX5_init 38 = .ok (.invokespecial 33, 3) := by decide +kernel
theorem dX5_init_41 : decode cX5_init 41 = .ok (.putfield 34, 3) := by decide +kernel
theorem dX5_init_44 : decode cX5_init 44 = .ok (.return_, 1) := by decide +kernel
set_option maxRecDepth 20000 in
theorem ggX5_octet_X4_collect : GoodIn wsX5_octet wsX4_collect := goodIn_r _ [6, 7, 8, 9, 10, 11, 12, 13, 14, 20, 21, 22, 23, 24, 25, 26, 27, 28] (by decide +kernel) (by decide +kernel)
set_option maxRecDepth 20000 in
theorem gX5_octet_X4_collect : GoodIn wsX5_octet (wsV RX5 38 RX4 yX4_collect wsX4_collect) := goodIn_app (goodIn_of _ (by decide +kernel)) ggX5_octet_X4_collect
theorem dX5_octet_0 : decode cX5_octet 0 = .ok (.aload_n 0, 1) := by decide +kernel
theorem dX5_octet_1 : decode cX5_octet 1 = .ok (.getfield 18, 3) := by decide +kernel
theorem dX5_octet_4 : decode cX5_octet 4 = .ok (.iload_n 1, 1) := by decide +kernel
theorem dX5_octet_5 : decode cX5_octet 5 = .ok (.invokevirtual 38, 3) := by decide +kernel
theorem dX5_octet_8 : decode cX5_octet 8 = .ok (.return_, 1) := by decide +kernel
set_option maxRecDepth 20000 in
theorem ggX5_protect_X5_isIdentity : GoodIn wsX5_protect wsX5_isIdentity := goodIn_r _ [5, 6] (by decide +kernel) (by decide +kernel)
set_option maxRecDepth 20000 in
theorem gX5_protect_X5_isIdentity : GoodIn wsX5_protect (va_wsS RX5 42 yX5_isIdentity wsX5_isIdentity) := goodIn_app (goodIn_of _ (by decide +kernel)) ggX5_protect_X5_isIdentity
set_option maxRecDepth 20000 in
theorem ggX5_protect_X4_makeRow : GoodIn wsX5_protect wsX4_makeRow := goodIn_r _ [11, 12, 13, 14, 15, 16, 17, 18, 19, 20, 21, 22, 23, 24, 25, 26, 27, 28, 29, 30, 31, 32, 33, 34, 35, 36, 37, 38, 39, 40, 41, 42, 43, 44, 45, 46, 47, 48, 49, 50, 51, 52, 53, 54, 55, 56, 57, 58, 59, 60, 61, 62, 63, 64, 65, 66, 67, 68, 69, 70, 71, 72, 73, 74, 75, 76, 82, 83, 84, 85, 86, 87, 88, 89, 90, 91, 92, 93, 94, 95, 96] (by decide +kernel) (by decide +kernel)
set_option maxRecDepth 20000 in
theorem gX5_protect_X4_makeRow : GoodIn wsX5_protect (wsV RX5 46 RX4 yX4_makeRow wsX4_makeRow) := goodIn_app (goodIn_of _ (by decide +kernel)) ggX5_protect_X4_makeRow
theorem dX5_protect_0 : decode cX5_protect 0 = .ok (.iload_n 1, 1) := by decide +kernel
theorem dX5_protect_1 : decode cX5_protect 1 = .ok (.invokestatic 42, 3) := by decide +kernel
theorem dX5_protect_4 : decode cX5_protect 4 = .ok (.ifCond .eq 14, 3) := by decide +kernel
theorem dX5_protect_7 : decode cX5_protect 7 = .ok (.aload_n 0, 1) := by decide +kernel
theorem dX5_protect_8 : decode cX5_protect 8 = .ok (.getfield 18, 3) := by decide +kernel
theorem dX5_protect_11 : decode cX5_protect 11 = .ok (.iload_n 1, 1) := by decide +kernel
theorem dX5_protect_12 : decode cX5_protect 12 = .ok (.invokevirtual 46, 3) := by decide +kernel
theorem dX5_protect_15 : decode cX5_protect 15 = .ok (.goto 5, 3) := by decide +kernel
theorem dX5_protect_18 : decode cX5_protect 18 = .ok (.bipush (-2), 2) := by decide +kernel
theorem dX5_protect_20 : decode cX5_protect 20 = .ok (.ireturn, 1) := by decide +kernel
set_option maxRecDepth 20000 in
theorem ggX5_out_X1_has : GoodIn wsX5_out wsX1_has := goodIn_r _ [9, 10, 11, 35, 36] (by decide +kernel) (by decide +kernel)
set_option maxRecDepth 20000 in
theorem gX5_out_X1_has : GoodIn wsX5_out (wsV RX5 54 RX1 yX1_has wsX1_has) := goodIn_app (goodIn_of _ (by decide +kernel)) ggX5_out_X1_has
set_option maxRecDepth 20000 in
theorem ggX5_out_X1_get : GoodIn wsX5_out wsX1_get := goodIn_r _ [15, 11, 16, 6, 7, 8, 9, 10, 35, 36] (by decide +kernel) (by decide +kernel)
set_option maxRecDepth 20000 in
theorem gX5_out_X1_get : GoodIn wsX5_out (wsV RX5 66 RX1 yX1_get wsX1_get) := goodIn_app (goodIn_of _ (by decide +kernel)) ggX5_out_X1_get
theorem dX5_out_0 : decode cX5_out 0 = .ok (.aload_n 0, 1) := by decide +kernel
theorem dX5_out_1 : decode cX5_out 1 = .ok (.getfield 18, 3) := by decide +kernel
theorem dX5_out_4 : decode cX5_out 4 = .ok (.getfield 50, 3) := by decide +kernel
theorem dX5_out_7 : decode cX5_out 7 = .ok (.iload_n 1, 1) := by decide +kernel
theorem dX5_out_8 : decode cX5_out 8 = .ok (.invokevirtual 54, 3) := by decide +kernel
theorem dX5_out_11 : decode cX5_out 11 = .ok (.ifCond .ne 13, 3) := by decide +kernel
theorem dX5_out_14 : decode cX5_out 14 = .ok (.new 59, 3) := by decide +kernel
theorem dX5_out_17 : decode cX5_out 17 = .ok (.dup, 1) := by decide +kernel
theorem dX5_out_18 : decode cX5_out 18 = .ok (.ldc 61, 2) := by decide +kernel
theorem dX5_out_20 : decode cX5_out 20 = .ok (.invokespecial 63, 3) := by decide +kernel
theorem dX5_out_23 : decode cX5_out 23 = .ok (.athrow, 1) := by decide +kernel
theorem dX5_out_24 : decode cX5_out 24 = .ok (.aload_n 0, 1) := by decide +kernel
theorem dX5_out_25 : decode cX5_out 25 = .ok (.getfield 18, 3) := by decide +kernel
theorem dX5_out_28 : decode cX5_out 28 = .ok (.getfield 50, 3) := by decide +kernel
theorem dX5_out_31 : decode cX5_out 31 = .ok (.iload_n 1, 1) := by decide +kernel
theorem dX5_out_32 : decode cX5_out 32 = .ok (.invokevirtual 66, 3) := by decide +kernel
theorem dX5_out_35 : decode cX5_out 35 = .ok (.i2b, 1) := by decide +kernel
theorem dX5_out_36 : decode cX5_out 36 = .ok (.ireturn, 1) := by decide +kernel
set_option maxRecDepth 20000 in
theorem ggX5_check_X5_isIdentity : GoodIn wsX5_check wsX5_isIdentity := goodIn_r _ [5, 6] (by decide +kernel) (by decide +kernel)
set_option maxRecDepth 20000 in
theorem gX5_check_X5_isIdentity : GoodIn wsX5_check (va_wsS RX5 42 yX5_isIdentity wsX5_isIdentity) := goodIn_app (goodIn_of _ (by decide +kernel)) ggX5_check_X5_isIdentity
set_option maxRecDepth 20000 in
theorem ggX5_check_X3_collect : GoodIn wsX5_check wsX3_collect := goodIn_r _ [11, 12, 13, 14, 15, 16, 17, 18, 19, 20, 126, 127, 128, 129, 130, 131] (by decide +kernel) (by decide +kernel)
set_option maxRecDepth 20000 in
theorem gX5_check_X3_collect : GoodIn wsX5_check (wsV RX5 69 RX3 yX3_collect wsX3_collect) := goodIn_app (goodIn_of _ (by decide +kernel)) ggX5_check_X3_collect
set_option maxRecDepth 20000 in
theorem ggX5_check_X5_endOfRow : GoodIn wsX5_check wsX5_endOfRow := goodIn_r _ [24, 1, 25, 26, 27, 28, 29, 30, 10, 31, 12, 13, 32, 33, 34, 35, 36, 37, 38, 39, 40, 41, 42, 43, 44, 45, 17, 46, 47, 48, 49, 50, 20, 51, 52, 53, 54, 19, 55, 56, 57, 58, 59, 60, 61, 62, 63, 64, 65, 66, 67, 68, 69, 70, 71, 72, 73, 74, 75, 76, 77, 78, 79, 80, 81, 82, 83, 84, 85, 86, 87, 88, 89, 90, 91, 92, 93, 94, 95, 96, 97, 98, 99, 100, 101, 102, 103, 104, 105, 106, 4, 107, 108, 109, 110, 111, 112, 113, 114, 115, 116, 117, 118, 119, 120, 121, 122, 123, 124, 125, 126, 127, 128, 129, 130, 131, 132, 133, 134, 135, 136, 137, 138, 139, 140, 141, 142] (by decide +kernel) (by decide +kernel)
set_option maxRecDepth 20000 in
theorem gX5_check_X5_endOfRow : GoodIn wsX5_check (wsV RX5 70 RX5 yX5_endOfRow wsX5_endOfRow) := goodIn_app (goodIn_of _ (by decide +kernel)) ggX5_check_X5_endOfRow
theorem dX5_check_0 : decode cX5_check 0 = .ok (.iload_n 3, 1) := by decide +kernel
theorem dX5_check_1 : decode cX5_check 1 = .ok (.ifCond .eq 13, 3) := by decide +kernel
theorem dX5_check_4 : decode cX5_check 4 = .ok (.iload_n 1, 1) := by decide +kernel
theorem dX5_check_5 : decode cX5_check 5 = .ok (.invokestatic 42, 3) := by decide +kernel
theorem dX5_check_8 : decode cX5_check 8 = .ok (.ifCond .ne 6, 3) := by decide +kernel
theorem dX5_check_11 : decode cX5_check 11 = .ok (.bipush (-2), 2) := by decide +kernel
theorem dX5_check_13 : decode cX5_check 13 = .ok (.ireturn, 1) := by decide +kernel
theorem dX5_check_14 : decode cX5_check 14 = .ok (.aload_n 0, 1) := by decide +kernel
theorem dX5_check_15 : decode cX5_check 15 = .ok (.getfield 27, 3) := by decide +kernel
theorem dX5_check_18 : decode cX5_check 18 = .ok (.iload_n 2, 1) := by decide +kernel
theorem dX5_check_19 : decode cX5_check 19 = .ok (.invokevirtual 69, 3) := by decide +kernel
theorem dX5_check_22 : decode cX5_check 22 = .ok (.iload_n 3, 1) := by decide +kernel
theorem dX5_check_23 : decode cX5_check 23 = .ok (.ifCond .eq 11, 3) := by decide +kernel
theorem dX5_check_26 : decode cX5_check 26 = .ok (.aload_n 0, 1) := by decide +kernel
theorem dX5_check_27 : decode cX5_check 27 = .ok (.iload_n 1, 1) := by decide +kernel
theorem dX5_check_28 : decode cX5_check 28 = .ok (.invokevirtual 70, 3) := by decide +kernel
theorem dX5_check_31 : decode cX5_check 31 = .ok (.goto 4, 3) := by decide +kernel
theorem dX5_check_34 : decode cX5_check 34 = .ok (.iconst 0, 1) := by decide +kernel
theorem dX5_check_35 : decode cX5_check 35 = .ok (.ireturn, 1) := by decide +kernel
theorem dX5_counter_0 : decode cX5_counter 0 = .ok (.aload_n 0, 1) := by decide +kernel
theorem dX5_counter_1 : decode cX5_counter 1 = .ok (.getfield 18, 3) := by decide +kernel
theorem dX5_counter_4 : decode cX5_counter 4 = .ok (.getfield 73, 3) := by decide +kernel
theorem dX5_counter_7 : decode cX5_counter 7 = .ok (.ireturn, 1) := by decide +kernel
theorem dX5_state_0 : decode cX5_state 0 = .ok (.aload_n 0, 1) := by decide +kernel
theorem dX5_state_1 : decode cX5_state 1 = .ok (.getfield 34, 3) := by decide +kernel
theorem dX5_state_4 : decode cX5_state 4 = .ok (.getfield 77, 3) := by decide +kernel
theorem dX5_state_7 : decode cX5_state 7 = .ok (.ireturn, 1) := by decide +kernel
set_option maxRecDepth 20000 in
theorem ggX5_span_X0_finding : GoodIn wsX5_span wsX0_finding := goodIn_r _ [6, 7, 8, 14, 15, 16, 17, 18] (by decide +kernel) (by decide +kernel)
set_option maxRecDepth 20000 in
theorem gX5_span_X0_finding : GoodIn wsX5_span (wsV RX5 80 RX0 yX0_finding wsX0_finding) := goodIn_app (goodIn_of _ (by decide +kernel)) ggX5_span_X0_finding
theorem dX5_span_0 : decode cX5_span 0 = .ok (.aload_n 0, 1) := by decide +kernel
theorem dX5_span_1 : decode cX5_span 1 = .ok (.getfield 34, 3) := by decide +kernel
theorem dX5_span_4 : decode cX5_span 4 = .ok (.iload_n 1, 1) := by decide +kernel
theorem dX5_span_5 : decode cX5_span 5 = .ok (.invokevirtual 80, 3) := by decide +kernel
theorem dX5_span_8 : decode cX5_span 8 = .ok (.ireturn, 1) := by decide +kernel
set_option maxRecDepth 20000 in
theorem ggX5_plant_X4_plantFlip : GoodIn wsX5_plant wsX4_plantFlip := goodIn_r _ [6, 7, 8, 19, 20, 21, 22, 23, 24, 25] (by decide +kernel) (by decide +kernel)
set_option maxRecDepth 20000 in
theorem gX5_plant_X4_plantFlip : GoodIn wsX5_plant (wsV RX5 83 RX4 yX4_plantFlip wsX4_plantFlip) := goodIn_app (goodIn_of _ (by decide +kernel)) ggX5_plant_X4_plantFlip
set_option maxRecDepth 20000 in
theorem ggX5_plant_X4_plantSkip : GoodIn wsX5_plant wsX4_plantSkip := goodIn_r _ [12, 13, 19, 20, 21, 22, 23, 24, 25] (by decide +kernel) (by decide +kernel)
set_option maxRecDepth 20000 in
theorem gX5_plant_X4_plantSkip : GoodIn wsX5_plant (wsV RX5 87 RX4 yX4_plantSkip wsX4_plantSkip) := goodIn_app (goodIn_of _ (by decide +kernel)) ggX5_plant_X4_plantSkip
theorem dX5_plant_0 : decode cX5_plant 0 = .ok (.iload_n 1, 1) := by decide +kernel
theorem dX5_plant_1 : decode cX5_plant 1 = .ok (.ifCond .eq 10, 3) := by decide +kernel
theorem dX5_plant_4 : decode cX5_plant 4 = .ok (.iload_n 1, 1) := by decide +kernel
theorem dX5_plant_5 : decode cX5_plant 5 = .ok (.iconst 1, 1) := by decide +kernel
theorem dX5_plant_6 : decode cX5_plant 6 = .ok (.if_icmp .eq 5, 3) := by decide +kernel
theorem dX5_plant_9 : decode cX5_plant 9 = .ok (.iconst (-1), 1) := by decide +kernel
theorem dX5_plant_10 : decode cX5_plant 10 = .ok (.ireturn, 1) := by decide +kernel
theorem dX5_plant_11 : decode cX5_plant 11 = .ok (.iload_n 2, 1) := by decide +kernel
theorem dX5_plant_12 : decode cX5_plant 12 = .ok (.ifCond .lt 9, 3) := by decide +kernel
theorem dX5_plant_15 : decode cX5_plant 15 = .ok (.iload_n 2, 1) := by decide +kernel
theorem dX5_plant_16 : decode cX5_plant 16 = .ok (.bipush 100, 2) := by decide +kernel
theorem dX5_plant_18 : decode cX5_plant 18 = .ok (.if_icmp .le 6, 3) := by decide +kernel
theorem dX5_plant_21 : decode cX5_plant 21 = .ok (.bipush (-2), 2) := by decide +kernel
theorem dX5_plant_23 : decode cX5_plant 23 = .ok (.ireturn, 1) := by decide +kernel
theorem dX5_plant_24 : decode cX5_plant 24 = .ok (.iload_n 1, 1) := by decide +kernel
theorem dX5_plant_25 : decode cX5_plant 25 = .ok (.ifCond .ne 15, 3) := by decide +kernel
theorem dX5_plant_28 : decode cX5_plant 28 = .ok (.aload_n 0, 1) := by decide +kernel
theorem dX5_plant_29 : decode cX5_plant 29 = .ok (.getfield 18, 3) := by decide +kernel
theorem dX5_plant_32 : decode cX5_plant 32 = .ok (.iload_n 2, 1) := by decide +kernel
theorem dX5_plant_33 : decode cX5_plant 33 = .ok (.iload_n 3, 1) := by decide +kernel
theorem dX5_plant_34 : decode cX5_plant 34 = .ok (.invokevirtual 83, 3) := by decide +kernel
theorem dX5_plant_37 : decode cX5_plant 37 = .ok (.goto 11, 3) := by decide +kernel
theorem dX5_plant_40 : decode cX5_plant 40 = .ok (.aload_n 0, 1) := by decide +kernel
theorem dX5_plant_41 : decode cX5_plant 41 = .ok (.getfield 18, 3) := by decide +kernel
theorem dX5_plant_44 : decode cX5_plant 44 = .ok (.iload_n 2, 1) := by decide +kernel
theorem dX5_plant_45 : decode cX5_plant 45 = .ok (.invokevirtual 87, 3) := by decide +kernel
theorem dX5_plant_48 : decode cX5_plant 48 = .ok (.iconst 1, 1) := by decide +kernel
theorem dX5_plant_49 : decode cX5_plant 49 = .ok (.ireturn, 1) := by decide +kernel
theorem dX5_valid_0 : decode cX5_valid 0 = .ok (.aload_n 0, 1) := by decide +kernel
theorem dX5_valid_1 : decode cX5_valid 1 = .ok (.getfield 34, 3) := by decide +kernel
theorem dX5_valid_4 : decode cX5_valid 4 = .ok (.getfield 91, 3) := by decide +kernel
theorem dX5_valid_7 : decode cX5_valid 7 = .ok (.ireturn, 1) := by decide +kernel
theorem dX5_react_0 : decode cX5_react 0 = .ok (.lload_n 1, 1) := by decide +kernel
theorem dX5_react_1 : decode cX5_react 1 = .ok (.aload_n 0, 1) := by decide +kernel
theorem dX5_react_2 : decode cX5_react 2 = .ok (.getfield 94, 3) := by decide +kernel
theorem dX5_react_5 : decode cX5_react 5 = .ok (.lcmp, 1) := by decide +kernel
theorem dX5_react_6 : decode cX5_react 6 = .ok (.ifCond .ge 6, 3) := by decide +kernel
theorem dX5_react_9 : decode cX5_react 9 = .ok (.bipush (-2), 2) := by decide +kernel
theorem dX5_react_11 : decode cX5_react 11 = .ok (.ireturn, 1) := by decide +kernel
theorem dX5_react_12 : decode cX5_react 12 = .ok (.aload_n 0, 1) := by decide +kernel
theorem dX5_react_13 : decode cX5_react 13 = .ok (.lload_n 1, 1) := by decide +kernel
theorem dX5_react_14 : decode cX5_react 14 = .ok (.putfield 94, 3) := by decide +kernel
theorem dX5_react_17 : decode cX5_react 17 = .ok (.lload_n 1, 1) := by decide +kernel
theorem dX5_react_18 : decode cX5_react 18 = .ok (.aload_n 0, 1) := by decide +kernel
theorem dX5_react_19 : decode cX5_react 19 = .ok (.getfield 98, 3) := by decide +kernel
theorem dX5_react_22 : decode cX5_react 22 = .ok (.lsub, 1) := by decide +kernel
theorem dX5_react_23 : decode cX5_react 23 = .ok (.ldc2_w 101, 3) := by decide +kernel
theorem dX5_react_26 : decode cX5_react 26 = .ok (.lcmp, 1) := by decide +kernel
theorem dX5_react_27 : decode cX5_react 27 = .ok (.ifCond .ge 14, 3) := by decide +kernel
theorem dX5_react_30 : decode cX5_react 30 = .ok (.aload_n 0, 1) := by decide +kernel
theorem dX5_react_31 : decode cX5_react 31 = .ok (.getfield 34, 3) := by decide +kernel
theorem dX5_react_34 : decode cX5_react 34 = .ok (.getfield 77, 3) := by decide +kernel
theorem dX5_react_37 : decode cX5_react 37 = .ok (.iconst 3, 1) := by decide +kernel
theorem dX5_react_38 : decode cX5_react 38 = .ok (.if_icmp .ne 7, 3) := by decide +kernel
theorem dX5_react_41 : decode cX5_react 41 = .ok (.iconst 1, 1) := by decide +kernel
theorem dX5_react_42 : decode cX5_react 42 = .ok (.goto 4, 3) := by decide +kernel
theorem dX5_react_45 : decode cX5_react 45 = .ok (.iconst 0, 1) := by decide +kernel
theorem dX5_react_46 : decode cX5_react 46 = .ok (.ireturn, 1) := by decide +kernel
set_option maxRecDepth 20000 in
theorem ggX5_told_X0_everFound : GoodIn wsX5_told wsX0_everFound := goodIn_r _ [6, 7, 13, 14, 15, 16, 17] (by decide +kernel) (by decide +kernel)
set_option maxRecDepth 20000 in
theorem gX5_told_X0_everFound : GoodIn wsX5_told (wsV RX5 103 RX0 yX0_everFound wsX0_everFound) := goodIn_app (goodIn_of _ (by decide +kernel)) ggX5_told_X0_everFound
theorem dX5_told_0 : decode cX5_told 0 = .ok (.aload_n 0, 1) := by decide +kernel
theorem dX5_told_1 : decode cX5_told 1 = .ok (.getfield 34, 3) := by decide +kernel
theorem dX5_told_4 : decode cX5_told 4 = .ok (.iload_n 1, 1) := by decide +kernel
theorem dX5_told_5 : decode cX5_told 5 = .ok (.invokevirtual 103, 3) := by decide +kernel
theorem dX5_told_8 : decode cX5_told 8 = .ok (.ireturn, 1) := by decide +kernel
theorem dX5_polynomial_0 : decode cX5_polynomial 0 = .ok (.iload_n 1, 1) := by decide +kernel
theorem dX5_polynomial_1 : decode cX5_polynomial 1 = .ok (.lookupswitch 45 #[(8, 35), (16, 38), (32, 42)], 35) := by decide +kernel
theorem dX5_polynomial_36 : decode cX5_polynomial 36 = .ok (.bipush 29, 2) := by decide +kernel
theorem dX5_polynomial_38 : decode cX5_polynomial 38 = .ok (.ireturn, 1) := by decide +kernel
theorem dX5_polynomial_39 : decode cX5_polynomial 39 = .ok (.sipush 4129, 3) := by decide +kernel
theorem dX5_polynomial_42 : decode cX5_polynomial 42 = .ok (.ireturn, 1) := by decide +kernel
theorem dX5_polynomial_43 : decode cX5_polynomial 43 = .ok (.ldc 106, 2) := by decide +kernel
theorem dX5_polynomial_45 : decode cX5_polynomial 45 = .ok (.ireturn, 1) := by decide +kernel
theorem dX5_polynomial_46 : decode cX5_polynomial 46 = .ok (.iconst (-1), 1) := by decide +kernel
theorem dX5_polynomial_47 : decode cX5_polynomial 47 = .ok (.ireturn, 1) := by decide +kernel
set_option maxRecDepth 20000 in
theorem ggX5_endOfRow_X3_endRow : GoodIn wsX5_endOfRow wsX3_endRow := goodIn_r _ [9, 10, 11, 12, 13, 14, 8, 15, 16, 17, 18, 19, 20, 21, 22, 23, 24, 25, 26, 27, 28, 29, 30, 31, 32, 33, 34, 35, 36, 37, 38, 39, 40, 41, 42, 43, 44, 45, 46, 47, 48, 49, 50, 51, 52, 53, 54, 55, 56, 57, 58, 59, 60, 61, 62, 63, 64, 65, 66, 67, 68, 69, 70, 71, 72, 73, 74, 110, 111, 112, 113, 114, 115, 116, 117, 118, 119, 120, 121] (by decide +kernel) (by decide +kernel)
set_option maxRecDepth 20000 in
theorem gX5_endOfRow_X3_endRow : GoodIn wsX5_endOfRow (wsV RX5 107 RX3 yX3_endRow wsX3_endRow) := goodIn_app (goodIn_of _ (by decide +kernel)) ggX5_endOfRow_X3_endRow
set_option maxRecDepth 20000 in
theorem ggX5_endOfRow_X0_add : GoodIn wsX5_endOfRow wsX0_add := goodIn_r _ [79, 80, 81, 82, 83, 84, 85, 86, 87, 88, 89, 90, 91, 92, 93, 94, 78, 95, 96, 97, 98, 99, 100, 101, 102, 103, 122, 123, 124, 125, 126] (by decide +kernel) (by decide +kernel)
set_option maxRecDepth 20000 in
theorem gX5_endOfRow_X0_add : GoodIn wsX5_endOfRow (wsV RX5 110 RX0 yX0_add wsX0_add) := goodIn_app (goodIn_of _ (by decide +kernel)) ggX5_endOfRow_X0_add
set_option maxRecDepth 20000 in
theorem ggX5_endOfRow_X5_sideOf : GoodIn wsX5_endOfRow wsX5_sideOf := goodIn_r _ [91] (by decide +kernel) (by decide +kernel)
set_option maxRecDepth 20000 in
theorem gX5_endOfRow_X5_sideOf : GoodIn wsX5_endOfRow (va_wsS RX5 113 yX5_sideOf wsX5_sideOf) := goodIn_app (goodIn_of _ (by decide +kernel)) ggX5_endOfRow_X5_sideOf
theorem dX5_endOfRow_0 : decode cX5_endOfRow 0 = .ok (.aload_n 0, 1) := by decide +kernel
theorem dX5_endOfRow_1 : decode cX5_endOfRow 1 = .ok (.getfield 27, 3) := by decide +kernel
theorem dX5_endOfRow_4 : decode cX5_endOfRow 4 = .ok (.iload_n 1, 1) := by decide +kernel
theorem dX5_endOfRow_5 : decode cX5_endOfRow 5 = .ok (.invokevirtual 107, 3) := by decide +kernel
theorem dX5_endOfRow_8 : decode cX5_endOfRow 8 = .ok (.istore_n 2, 1) := by decide +kernel
theorem dX5_endOfRow_9 : decode cX5_endOfRow 9 = .ok (.aload_n 0, 1) := by decide +kernel
theorem dX5_endOfRow_10 : decode cX5_endOfRow 10 = .ok (.getfield 34, 3) := by decide +kernel
theorem dX5_endOfRow_13 : decode cX5_endOfRow 13 = .ok (.iload_n 2, 1) := by decide +kernel
theorem dX5_endOfRow_14 : decode cX5_endOfRow 14 = .ok (.invokevirtual 110, 3) := by decide +kernel
theorem dX5_endOfRow_17 : decode cX5_endOfRow 17 = .ok (.iload_n 2, 1) := by decide +kernel
theorem dX5_endOfRow_18 : decode cX5_endOfRow 18 = .ok (.invokestatic 113, 3) := by decide +kernel
theorem dX5_endOfRow_21 : decode cX5_endOfRow 21 = .ok (.iconst 1, 1) := by decide +kernel
theorem dX5_endOfRow_22 : decode cX5_endOfRow 22 = .ok (.if_icmp .ne 11, 3) := by decide +kernel
theorem dX5_endOfRow_25 : decode cX5_endOfRow 25 = .ok (.aload_n 0, 1) := by decide +kernel
theorem dX5_endOfRow_26 : decode cX5_endOfRow 26 = .ok (.aload_n 0, 1) := by decide +kernel
theorem dX5_endOfRow_27 : decode cX5_endOfRow 27 = .ok (.getfield 94, 3) := by decide +kernel
theorem dX5_endOfRow_30 : decode cX5_endOfRow 30 = .ok (.putfield 98, 3) := by decide +kernel
theorem dX5_endOfRow_33 : decode cX5_endOfRow 33 = .ok (.iload_n 2, 1) := by decide +kernel
theorem dX5_endOfRow_34 : decode cX5_endOfRow 34 = .ok (.ireturn, 1) := by decide +kernel
theorem dX5_isIdentity_0 : decode cX5_isIdentity 0 = .ok (.iload_n 0, 1) := by decide +kernel
theorem dX5_isIdentity_1 : decode cX5_isIdentity 1 = .ok (.ifCond .lt 13, 3) := by decide +kernel
theorem dX5_isIdentity_4 : decode cX5_isIdentity 4 = .ok (.iload_n 0, 1) := by decide +kernel
theorem dX5_isIdentity_5 : decode cX5_isIdentity 5 = .ok (.ldc 116, 2) := by decide +kernel
theorem dX5_isIdentity_7 : decode cX5_isIdentity 7 = .ok (.if_icmp .gt 7, 3) := by decide +kernel
theorem dX5_isIdentity_10 : decode cX5_isIdentity 10 = .ok (.iconst 1, 1) := by decide +kernel
theorem dX5_isIdentity_11 : decode cX5_isIdentity 11 = .ok (.goto 4, 3) := by decide +kernel
theorem dX5_isIdentity_14 : decode cX5_isIdentity 14 = .ok (.iconst 0, 1) := by decide +kernel
theorem dX5_isIdentity_15 : decode cX5_isIdentity 15 = .ok (.ireturn, 1) := by decide +kernel
theorem dX5_sideOf_0 : decode cX5_sideOf 0 = .ok (.iload_n 0, 1) := by decide +kernel
theorem dX5_sideOf_1 : decode cX5_sideOf 1 = .ok (.tableswitch 43 0 5 #[39, 43, 39, 41, 41, 39], 39) := by decide +kernel
theorem dX5_sideOf_40 : decode cX5_sideOf 40 = .ok (.iconst 1, 1) := by decide +kernel
theorem dX5_sideOf_41 : decode cX5_sideOf 41 = .ok (.ireturn, 1) := by decide +kernel
theorem dX5_sideOf_42 : decode cX5_sideOf 42 = .ok (.iconst 2, 1) := by decide +kernel
theorem dX5_sideOf_43 : decode cX5_sideOf 43 = .ok (.ireturn, 1) := by decide +kernel
theorem dX5_sideOf_44 : decode cX5_sideOf 44 = .ok (.iconst 0, 1) := by decide +kernel
theorem dX5_sideOf_45 : decode cX5_sideOf 45 = .ok (.ireturn, 1) := by decide +kernel
end
section
theorem dX6_init_0 : decode cX6_init 0 = .ok (.aload_n 0, 1) := by decide +kernel
theorem dX6_init_1 : decode cX6_init 1 = .ok (.invokespecial 1, 3) := by decide +kernel
theorem dX6_init_4 : decode cX6_init 4 = .ok (.aload_n 0, 1) := by decide +kernel
theorem dX6_init_5 : decode cX6_init 5 = .ok (.bipush 64, 2) := by decide +kernel
theorem dX6_init_7 : decode cX6_init 7 = .ok (.newarray .int, 2) := by decide +kernel
theorem dX6_init_9 : decode cX6_init 9 = .ok (.putfield 7, 3) := by decide +kernel
theorem dX6_init_12 : decode cX6_init 12 = .ok (.aload_n 0, 1) := by decide +kernel
theorem dX6_init_13 : decode cX6_init 13 = .ok (.bipush 80, 2) := by decide +kernel
theorem dX6_init_15 : decode cX6_init 15 = .ok (.newarray .int, 2) := by decide +kernel
theorem dX6_init_17 : decode cX6_init 17 = .ok (.putfield 13, 3) := by decide +kernel
theorem dX6_init_20 : decode cX6_init 20 = .ok (.aload_n 0, 1) := by decide +kernel
theorem dX6_init_21 : decode cX6_init 21 = .ok (.iconst (-1), 1) := by decide +kernel
theorem dX6_init_22 : decode cX6_init 22 = .ok (.putfield 16, 3) := by decide +kernel
theorem dX6_init_25 : decode cX6_init 25 = .ok (.aload_n 0, 1) := by decide +kernel
theorem dX6_init_26 : decode cX6_init 26 = .ok (.bipush 70, 2) := by decide +kernel
theorem dX6_init_28 : decode cX6_init 28 = .ok (.newarray .int, 2) := by decide +kernel
theorem dX6_init_30 : decode cX6_init 30 = .ok (.putfield 20, 3) := by decide +kernel
theorem dX6_init_33 : decode cX6_init 33 = .ok (.aload_n 0, 1) := by decide +kernel
theorem dX6_init_34 : decode cX6_init 34 = .ok (.iconst (-1), 1) := by decide +kernel
theorem dX6_init_35 : decode cX6_init 35 = .ok (.putfield 23, 3) := by decide +kernel
theorem dX6_init_38 : decode cX6_init 38 = .ok (.aload_n 0, 1) := by decide +kernel
theorem dX6_init_39 : decode cX6_init 39 = .ok (.bipush 10, 2) := by decide +kernel
theorem dX6_init_41 : decode cX6_init 41 = .ok (.newarray .int, 2) := by decide +kernel
theorem dX6_init_43 : decode cX6_init 43 = .ok (.putfield 26, 3) := by decide +kernel
theorem dX6_init_46 : decode cX6_init 46 = .ok (.aload_n 0, 1) := by decide +kernel
theorem dX6_init_47 : decode cX6_init 47 = .ok (.bipush 6, 2) := by decide +kernel
theorem dX6_init_49 : decode cX6_init 49 = .ok (.newarray .boolean, 2) := by decide +kernel
theorem dX6_init_51 : decode cX6_init 51 = .ok (.putfield 29, 3) := by decide +kernel
theorem dX6_init_54 : decode cX6_init 54 = .ok (.aload_n 0, 1) := by decide +kernel
theorem dX6_init_55 : decode cX6_init 55 = .ok (.iload_n 1, 1) := by decide +kernel
theorem dX6_init_56 : decode cX6_init 56 = .ok (.iconst 2, 1) := by decide +kernel
theorem dX6_init_57 : decode cX6_init 57 = .ok (.if_icmp .eq 8, 3) := by decide +kernel
theorem dX6_init_60 : decode cX6_init 60 = .ok (.iload_n 1, 1) := by decide +kernel
theorem dX6_init_61 : decode cX6_init 61 = .ok (.iconst 3, 1) := by decide +kernel
theorem dX6_init_62 : decode cX6_init 62 = .ok (.if_icmp .ne 7, 3) := by decide +kernel
theorem dX6_init_65 : decode cX6_init 65 = .ok (.iload_n 1, 1) := by decide +kernel
theorem dX6_init_66 : decode cX6_init 66 = .ok (.goto 4, 3) := by decide +kernel
theorem dX6_init_69 : decode cX6_init 69 = .ok (.iconst 1, 1) := by decide +kernel
theorem dX6_init_70 : decode cX6_init 70 = .ok (.putfield 33, 3) := by decide +kernel
theorem dX6_init_73 : decode cX6_init 73 = .ok (.aload_n 0, 1) := by decide +kernel
theorem dX6_init_74 : decode cX6_init 74 = .ok (.aload_n 0, 1) := by decide +kernel
theorem dX6_init_75 : decode cX6_init 75 = .ok (.getfield 33, 3) := by decide +kernel
theorem dX6_init_78 : decode cX6_init 78 = .ok (.iconst 3, 1) := by decide +kernel
theorem dX6_init_79 : decode cX6_init 79 = .ok (.if_icmp .ne 8, 3) := by decide +kernel
theorem dX6_init_82 : decode cX6_init 82 = .ok (.bipush 32, 2) := by decide +kernel
theorem dX6_init_84 : decode cX6_init 84 = .ok (.goto 10, 3) := by decide +kernel
theorem dX6_init_87 : decode cX6_init 87 = .ok (.bipush 8, 2) := by decide +kernel
theorem dX6_init_89 : decode cX6_init 89 = .ok (.aload_n 0, 1) := by decide +kernel
theorem dX6_init_90 : decode cX6_init 90 = .ok (.getfield 33, 3) := by decide +kernel
theorem dX6_init_93 : decode cX6_init 93 = .ok (.imul, 1) := by decide +kernel
theorem dX6_init_94 : decode cX6_init 94 = .ok (.putfield 36, 3) := by decide +kernel
theorem dX6_init_97 : decode cX6_init 97 = .ok (.aload_n 0, 1) := by decide +kernel
theorem dX6_init_98 : decode cX6_init 98 = .ok (.aload_n 0, 1) := by decide +kernel
theorem dX6_init_99 : decode cX6_init 99 = .ok (.getfield 33, 3) := by decide +kernel
theorem dX6_init_102 : decode cX6_init 102 = .ok (.iconst 1, 1) := by decide +kernel
theorem dX6_init_103 : decode cX6_init 103 = .ok (.if_icmp .ne 8, 3) := by decide +kernel
theorem dX6_init_106 : decode cX6_init 106 = .ok (.bipush 15, 2) := by decide +kernel
theorem dX6_init_108 : decode cX6_init 108 = .ok (.goto 19, 3) := by decide +kernel
theorem dX6_init_111 : decode cX6_init 111 = .ok (.aload_n 0, 1) := by decide +kernel
theorem dX6_init_112 : decode cX6_init 112 = .ok (.getfield 33, 3) := by decide +kernel
theorem dX6_init_115 : decode cX6_init 115 = .ok (.iconst 2, 1) := by decide +kernel
theorem dX6_init_116 : decode cX6_init 116 = .ok (.if_icmp .ne 9, 3) := by decide +kernel
theorem dX6_init_119 : decode cX6_init 119 = .ok (.sipush 256, 3) := by decide +kernel
theorem dX6_init_122 : decode cX6_init 122 = .ok (.goto 5, 3) := by decide +kernel
theorem dX6_init_125 : decode cX6_init 125 = .ok (.ldc 39, 2) := by decide +kernel
theorem dX6_init_127 : decode cX6_init 127 = .ok (.putfield 40, 3) := by decide +kernel
theorem dX6_init_130 : decode cX6_init 130 = .ok (.aload_n 0, 1) := by decide +kernel
theorem dX6_init_131 : decode cX6_init 131 = .ok (.aload_n 0, 1) := by decide +kernel
theorem dX6_init_132 : decode cX6_init 132 = .ok (.getfield 33, 3) := by decide +kernel
theorem dX6_init_135 : decode cX6_init 135 = .ok (.iconst 3, 1) := by decide +kernel
theorem dX6_init_136 : decode cX6_init 136 = .ok (.if_icmp .ne 7, 3) := by decide +kernel
theorem dX6_init_139 : decode cX6_init 139 = .ok (.iconst 2, 1) := by decide +kernel
theorem dX6_init_140 : decode cX6_init 140 = .ok (.goto 4, 3) := by decide +kernel
theorem dX6_init_143 : decode cX6_init 143 = .ok (.iconst 1, 1) := by decide +kernel
theorem dX6_init_144 : decode cX6_init 144 = .ok (.putfield 43, 3) := by decide +kernel
theorem dX6_init_147 : decode cX6_init 147 = .ok (.return_, 1) := by decide +kernel
theorem dX6_thrown_0 : decode cX6_thrown 0 = .ok (.aload_n 0, 1) := by decide +kernel
theorem dX6_thrown_1 : decode cX6_thrown 1 = .ok (.getfield 46, 3) := by decide +kernel
theorem dX6_thrown_4 : decode cX6_thrown 4 = .ok (.ireturn, 1) := by decide +kernel
theorem dX6_add_0 : decode cX6_add 0 = .ok (.lconst 1, 1) := by decide +kernel
theorem dX6_add_1 : decode cX6_add 1 = .ok (.aload_n 0, 1) := by decide +kernel
theorem dX6_add_2 : decode cX6_add 2 = .ok (.getfield 36, 3) := by decide +kernel
theorem dX6_add_5 : decode cX6_add 5 = .ok (.iconst 1, 1) := by decide +kernel
theorem dX6_add_6 : decode cX6_add 6 = .ok (.isub, 1) := by decide +kernel
theorem dX6_add_7 : decode cX6_add 7 = .ok (.lshl, 1) := by decide +kernel
theorem dX6_add_8 : decode cX6_add 8 = .ok (.lstore 4, 2) := by decide +kernel
theorem dX6_add_10 : decode cX6_add 10 = .ok (.aload_n 0, 1) := by decide +kernel
theorem dX6_add_11 : decode cX6_add 11 = .ok (.getfield 33, 3) := by decide +kernel
theorem dX6_add_14 : decode cX6_add 14 = .ok (.iconst 1, 1) := by decide +kernel
theorem dX6_add_15 : decode cX6_add 15 = .ok (.if_icmp .ne 9, 3) := by decide +kernel
theorem dX6_add_18 : decode cX6_add 18 = .ok (.ldc2_w 49, 3) := by decide +kernel
theorem dX6_add_21 : decode cX6_add 21 = .ok (.goto 20, 3) := by decide +kernel
theorem dX6_add_24 : decode cX6_add 24 = .ok (.aload_n 0, 1) := by decide +kernel
theorem dX6_add_25 : decode cX6_add 25 = .ok (.getfield 33, 3) := by decide +kernel
theorem dX6_add_28 : decode cX6_add 28 = .ok (.iconst 2, 1) := by decide +kernel
theorem dX6_add_29 : decode cX6_add 29 = .ok (.if_icmp .ne 9, 3) := by decide +kernel
theorem dX6_add_32 : decode cX6_add 32 = .ok (.ldc2_w 51, 3) := by decide +kernel
theorem dX6_add_35 : decode cX6_add 35 = .ok (.goto 6, 3) := by decide +kernel
theorem dX6_add_38 : decode cX6_add 38 = .ok (.ldc2_w 53, 3) := by decide +kernel
theorem dX6_add_41 : decode cX6_add 41 = .ok (.lstore 6, 2) := by decide +kernel
theorem dX6_add_43 : decode cX6_add 43 = .ok (.lload_n 1, 1) := by decide +kernel
theorem dX6_add_44 : decode cX6_add 44 = .ok (.lstore 8, 2) := by decide +kernel
theorem dX6_add_46 : decode cX6_add 46 = .ok (.bipush 7, 2) := by decide +kernel
theorem dX6_add_48 : decode cX6_add 48 = .ok (.istore 10, 2) := by decide +kernel
theorem dX6_add_50 : decode cX6_add 50 = .ok (.iload 10, 2) := by decide +kernel
theorem dX6_add_52 : decode cX6_add 52 = .ok (.ifCond .lt 71, 3) := by decide +kernel
theorem dX6_add_55 : decode cX6_add 55 = .ok (.iload_n 3, 1) := by decide +kernel
theorem dX6_add_56 : decode cX6_add 56 = .ok (.iload 10, 2) := by decide +kernel
theorem dX6_add_58 : decode cX6_add 58 = .ok (.ishr, 1) := by decide +kernel
theorem dX6_add_59 : decode cX6_add 59 = .ok (.iconst 1, 1) := by decide +kernel
theorem dX6_add_60 : decode cX6_add 60 = .ok (.iand, 1) := by decide +kernel
theorem dX6_add_61 : decode cX6_add 61 = .ok (.iconst 1, 1) := by decide +kernel
theorem dX6_add_62 : decode cX6_add 62 = .ok (.if_icmp .ne 7, 3) := by decide +kernel
theorem dX6_add_65 : decode cX6_add 65 = .ok (.iconst 1, 1) := by decide +kernel
theorem dX6_add_66 : decode cX6_add 66 = .ok (.goto 4, 3) := by decide +kernel
theorem dX6_add_69 : decode cX6_add 69 = .ok (.iconst 0, 1) := by decide +kernel
theorem dX6_add_70 : decode cX6_add 70 = .ok (.istore 11, 2) := by decide +kernel
theorem dX6_add_72 : decode cX6_add 72 = .ok (.lload 8, 2) := by decide +kernel
theorem dX6_add_74 : decode cX6_add 74 = .ok (.lload 4, 2) := by decide +kernel
theorem dX6_add_76 : decode cX6_add 76 = .ok (.lcmp, 1) := by decide +kernel
theorem dX6_add_77 : decode cX6_add 77 = .ok (.ifCond .lt 7, 3) := by decide +kernel
theorem dX6_add_80 : decode cX6_add 80 = .ok (.iconst 1, 1) := by decide +kernel
theorem dX6_add_81 : decode cX6_add 81 = .ok (.goto 4, 3) := by decide +kernel
theorem dX6_add_84 : decode cX6_add 84 = .ok (.iconst 0, 1) := by decide +kernel
theorem dX6_add_85 : decode cX6_add 85 = .ok (.istore 12, 2) := by decide +kernel
theorem dX6_add_87 : decode cX6_add 87 = .ok (.lload 8, 2) := by decide +kernel
theorem dX6_add_89 : decode cX6_add 89 = .ok (.lload 4, 2) := by decide +kernel
theorem dX6_add_91 : decode cX6_add 91 = .ok (.lrem, 1) := by decide +kernel
theorem dX6_add_92 : decode cX6_add 92 = .ok (.ldc2_w 55, 3) := by decide +kernel
theorem dX6_add_95 : decode cX6_add 95 = .ok (.lmul, 1) := by decide +kernel
theorem dX6_add_96 : decode cX6_add 96 = .ok (.lstore 8, 2) := by decide +kernel
theorem dX6_add_98 : decode cX6_add 98 = .ok (.iload 11, 2) := by decide +kernel
theorem dX6_add_100 : decode cX6_add 100 = .ok (.iload 12, 2) := by decide +kernel
theorem dX6_add_102 : decode cX6_add 102 = .ok (.if_icmp .eq 11, 3) := by decide +kernel
theorem dX6_add_105 : decode cX6_add 105 = .ok (.lload 8, 2) := by decide +kernel
theorem dX6_add_107 : decode cX6_add 107 = .ok (.lload 6, 2) := by decide +kernel
theorem dX6_add_109 : decode cX6_add 109 = .ok (.lxor, 1) := by decide +kernel
theorem dX6_add_110 : decode cX6_add 110 = .ok (.goto 5, 3) := by decide +kernel
theorem dX6_add_113 : decode cX6_add 113 = .ok (.lload 8, 2) := by decide +kernel
theorem dX6_add_115 : decode cX6_add 115 = .ok (.lstore 8, 2) := by decide +kernel
theorem dX6_add_117 : decode cX6_add 117 = .ok (.iinc 10 (-1), 3) := by decide +kernel
theorem dX6_add_120 : decode cX6_add 120 = .ok (.goto (-70), 3) := by decide +kernel
theorem dX6_add_123 : decode cX6_add 123 = .ok (.lload 8, 2) := by decide +kernel
theorem dX6_add_125 : decode cX6_add 125 = .ok (.lreturn, 1) := by decide +kernel
set_option maxRecDepth 20000 in
theorem ggX6_begin_X6_add : GoodIn wsX6_begin wsX6_add := goodIn_r _ [6, 1, 7, 8, 9, 10, 11, 12, 13, 14, 15, 16, 17, 18, 19, 20, 21, 22, 23, 24, 25, 26, 27, 28, 29, 30, 31, 32, 33, 34] (by decide +kernel) (by decide +kernel)
set_option maxRecDepth 20000 in
theorem gX6_begin_X6_add : GoodIn wsX6_begin (wsV RX6 57 RX6 yX6_add wsX6_add) := goodIn_app (goodIn_of _ (by decide +kernel)) ggX6_begin_X6_add
theorem dX6_begin_0 : decode cX6_begin 0 = .ok (.lconst 1, 1) := by decide +kernel
theorem dX6_begin_1 : decode cX6_begin 1 = .ok (.aload_n 0, 1) := by decide +kernel
theorem dX6_begin_2 : decode cX6_begin 2 = .ok (.getfield 36, 3) := by decide +kernel
theorem dX6_begin_5 : decode cX6_begin 5 = .ok (.lshl, 1) := by decide +kernel
theorem dX6_begin_6 : decode cX6_begin 6 = .ok (.lconst 1, 1) := by decide +kernel
theorem dX6_begin_7 : decode cX6_begin 7 = .ok (.lsub, 1) := by decide +kernel
theorem dX6_begin_8 : decode cX6_begin 8 = .ok (.lstore_n 2, 1) := by decide +kernel
theorem dX6_begin_9 : decode cX6_begin 9 = .ok (.aload_n 0, 1) := by decide +kernel
theorem dX6_begin_10 : decode cX6_begin 10 = .ok (.aload_n 0, 1) := by decide +kernel
theorem dX6_begin_11 : decode cX6_begin 11 = .ok (.lload_n 2, 1) := by decide +kernel
theorem dX6_begin_12 : decode cX6_begin 12 = .ok (.iload_n 1, 1) := by decide +kernel
theorem dX6_begin_13 : decode cX6_begin 13 = .ok (.sipush 256, 3) := by decide +kernel
theorem dX6_begin_16 : decode cX6_begin 16 = .ok (.idiv, 1) := by decide +kernel
theorem dX6_begin_17 : decode cX6_begin 17 = .ok (.invokevirtual 57, 3) := by decide +kernel
theorem dX6_begin_20 : decode cX6_begin 20 = .ok (.iload_n 1, 1) := by decide +kernel
theorem dX6_begin_21 : decode cX6_begin 21 = .ok (.sipush 256, 3) := by decide +kernel
theorem dX6_begin_24 : decode cX6_begin 24 = .ok (.irem, 1) := by decide +kernel
theorem dX6_begin_25 : decode cX6_begin 25 = .ok (.invokevirtual 57, 3) := by decide +kernel
theorem dX6_begin_28 : decode cX6_begin 28 = .ok (.lreturn, 1) := by decide +kernel
theorem dX6_end_0 : decode cX6_end 0 = .ok (.aload_n 0, 1) := by decide +kernel
theorem dX6_end_1 : decode cX6_end 1 = .ok (.getfield 33, 3) := by decide +kernel
theorem dX6_end_4 : decode cX6_end 4 = .ok (.iconst 2, 1) := by decide +kernel
theorem dX6_end_5 : decode cX6_end 5 = .ok (.if_icmp .ne 7, 3) := by decide +kernel
theorem dX6_end_8 : decode cX6_end 8 = .ok (.lload_n 1, 1) := by decide +kernel
theorem dX6_end_9 : decode cX6_end 9 = .ok (.goto 13, 3) := by decide +kernel
theorem dX6_end_12 : decode cX6_end 12 = .ok (.lconst 1, 1) := by decide +kernel
theorem dX6_end_13 : decode cX6_end 13 = .ok (.aload_n 0, 1) := by decide +kernel
theorem dX6_end_14 : decode cX6_end 14 = .ok (.getfield 36, 3) := by decide +kernel
theorem dX6_end_17 : decode cX6_end 17 = .ok (.lshl, 1) := by decide +kernel
theorem dX6_end_18 : decode cX6_end 18 = .ok (.lconst 1, 1) := by decide +kernel
theorem dX6_end_19 : decode cX6_end 19 = .ok (.lsub, 1) := by decide +kernel
theorem dX6_end_20 : decode cX6_end 20 = .ok (.lload_n 1, 1) := by decide +kernel
theorem dX6_end_21 : decode cX6_end 21 = .ok (.lsub, 1) := by decide +kernel
theorem dX6_end_22 : decode cX6_end 22 = .ok (.lreturn, 1) := by decide +kernel
theorem dX6_octet_0 : decode cX6_octet 0 = .ok (.aload_n 0, 1) := by decide +kernel
theorem dX6_octet_1 : decode cX6_octet 1 = .ok (.iconst 0, 1) := by decide +kernel
theorem dX6_octet_2 : decode cX6_octet 2 = .ok (.putfield 46, 3) := by decide +kernel
theorem dX6_octet_5 : decode cX6_octet 5 = .ok (.aload_n 0, 1) := by decide +kernel
theorem dX6_octet_6 : decode cX6_octet 6 = .ok (.getfield 61, 3) := by decide +kernel
theorem dX6_octet_9 : decode cX6_octet 9 = .ok (.bipush 64, 2) := by decide +kernel
theorem dX6_octet_11 : decode cX6_octet 11 = .ok (.if_icmp .ne 4, 3) := by decide +kernel
theorem dX6_octet_14 : decode cX6_octet 14 = .ok (.return_, 1) := by decide +kernel
theorem dX6_octet_15 : decode cX6_octet 15 = .ok (.aload_n 0, 1) := by decide +kernel
theorem dX6_octet_16 : decode cX6_octet 16 = .ok (.getfield 7, 3) := by decide +kernel
theorem dX6_octet_19 : decode cX6_octet 19 = .ok (.aload_n 0, 1) := by decide +kernel
theorem dX6_octet_20 : decode cX6_octet 20 = .ok (.getfield 61, 3) := by decide +kernel
theorem dX6_octet_23 : decode cX6_octet 23 = .ok (.iload_n 1, 1) := by decide +kernel
theorem dX6_octet_24 : decode cX6_octet 24 = .ok (.sipush 255, 3) := by decide +kernel
theorem dX6_octet_27 : decode cX6_octet 27 = .ok (.iand, 1) := by decide +kernel
theorem dX6_octet_28 : decode cX6_octet 28 = .ok (.iastore, 1) := by decide +kernel
theorem dX6_octet_29 : decode cX6_octet 29 = .ok (.aload_n 0, 1) := by decide +kernel
theorem dX6_octet_30 : decode cX6_octet 30 = .ok (.dup, 1) := by decide +kernel
theorem dX6_octet_31 : decode cX6_octet 31 = .ok (.getfield 61, 3) := by decide +kernel
theorem dX6_octet_34 : decode cX6_octet 34 = .ok (.iconst 1, 1) := by decide +kernel
theorem dX6_octet_35 : decode cX6_octet 35 = .ok (.iadd, 1) := by decide +kernel
theorem dX6_octet_36 : decode cX6_octet 36 = .ok (.putfield 61, 3) := by decide +kernel
theorem dX6_octet_39 : decode cX6_octet 39 = .ok (.return_, 1) := by decide +kernel
set_option maxRecDepth 20000 in
theorem ggX6_protect_X6_begin : GoodIn wsX6_protect wsX6_begin := goodIn_r _ [19, 11, 20, 21, 22, 18, 23, 24, 25, 26, 27, 28, 33, 34, 35, 36, 37, 38, 39, 40, 41, 42, 43, 44, 45, 46, 47, 48, 49, 50, 51, 52, 53, 54, 55] (by decide +kernel) (by decide +kernel)
set_option maxRecDepth 20000 in
theorem gX6_protect_X6_begin : GoodIn wsX6_protect (wsV RX6 71 RX6 yX6_begin wsX6_begin) := goodIn_app (goodIn_of _ (by decide +kernel)) ggX6_protect_X6_begin
set_option maxRecDepth 20000 in
theorem ggX6_protect_X6_add : GoodIn wsX6_protect wsX6_add := goodIn_r _ [23, 11, 24, 25, 26, 27, 28, 33, 34, 35, 36, 37, 38, 39, 40, 41, 42, 43, 44, 45, 46, 47, 48, 49, 50, 51, 52, 53, 54, 55] (by decide +kernel) (by decide +kernel)
set_option maxRecDepth 20000 in
theorem gX6_protect_X6_add : GoodIn wsX6_protect (wsV RX6 57 RX6 yX6_add wsX6_add) := goodIn_app (goodIn_of _ (by decide +kernel)) ggX6_protect_X6_add
set_option maxRecDepth 20000 in
theorem ggX6_protect_X6_end : GoodIn wsX6_protect wsX6_end := goodIn_r _ [32, 24, 11, 33, 34, 35, 36, 37, 38, 39, 40, 41, 42, 43, 44, 45, 46, 47, 48, 49, 50, 51, 52, 53, 54, 55] (by decide +kernel) (by decide +kernel)
set_option maxRecDepth 20000 in
theorem gX6_protect_X6_end : GoodIn wsX6_protect (wsV RX6 78 RX6 yX6_end wsX6_end) := goodIn_app (goodIn_of _ (by decide +kernel)) ggX6_protect_X6_end
theorem dX6_protect_0 : decode cX6_protect 0 = .ok (.aload_n 0, 1) := by decide +kernel
theorem dX6_protect_1 : decode cX6_protect 1 = .ok (.iconst 0, 1) := by decide +kernel
theorem dX6_protect_2 : decode cX6_protect 2 = .ok (.putfield 46, 3) := by decide +kernel
theorem dX6_protect_5 : decode cX6_protect 5 = .ok (.iload_n 1, 1) := by decide +kernel
theorem dX6_protect_6 : decode cX6_protect 6 = .ok (.ifCond .lt 9, 3) := by decide +kernel
theorem dX6_protect_9 : decode cX6_protect 9 = .ok (.iload_n 1, 1) := by decide +kernel
theorem dX6_protect_10 : decode cX6_protect 10 = .ok (.ldc 64, 2) := by decide +kernel
theorem dX6_protect_12 : decode cX6_protect 12 = .ok (.if_icmp .le 6, 3) := by decide +kernel
theorem dX6_protect_15 : decode cX6_protect 15 = .ok (.bipush (-2), 2) := by decide +kernel
theorem dX6_protect_17 : decode cX6_protect 17 = .ok (.ireturn, 1) := by decide +kernel
theorem dX6_protect_18 : decode cX6_protect 18 = .ok (.aload_n 0, 1) := by decide +kernel
theorem dX6_protect_19 : decode cX6_protect 19 = .ok (.aload_n 0, 1) := by decide +kernel
theorem dX6_protect_20 : decode cX6_protect 20 = .ok (.getfield 65, 3) := by decide +kernel
theorem dX6_protect_23 : decode cX6_protect 23 = .ok (.aload_n 0, 1) := by decide +kernel
theorem dX6_protect_24 : decode cX6_protect 24 = .ok (.getfield 68, 3) := by decide +kernel
theorem dX6_protect_27 : decode cX6_protect 27 = .ok (.iadd, 1) := by decide +kernel
theorem dX6_protect_28 : decode cX6_protect 28 = .ok (.aload_n 0, 1) := by decide +kernel
theorem dX6_protect_29 : decode cX6_protect 29 = .ok (.getfield 40, 3) := by decide +kernel
theorem dX6_protect_32 : decode cX6_protect 32 = .ok (.irem, 1) := by decide +kernel
theorem dX6_protect_33 : decode cX6_protect 33 = .ok (.putfield 65, 3) := by decide +kernel
theorem dX6_protect_36 : decode cX6_protect 36 = .ok (.aload_n 0, 1) := by decide +kernel
theorem dX6_protect_37 : decode cX6_protect 37 = .ok (.iload_n 1, 1) := by decide +kernel
theorem dX6_protect_38 : decode cX6_protect 38 = .ok (.invokevirtual 71, 3) := by decide +kernel
theorem dX6_protect_41 : decode cX6_protect 41 = .ok (.lstore_n 2, 1) := by decide +kernel
theorem dX6_protect_42 : decode cX6_protect 42 = .ok (.aload_n 0, 1) := by decide +kernel
theorem dX6_protect_43 : decode cX6_protect 43 = .ok (.iconst 0, 1) := by decide +kernel
theorem dX6_protect_44 : decode cX6_protect 44 = .ok (.putfield 75, 3) := by decide +kernel
theorem dX6_protect_47 : decode cX6_protect 47 = .ok (.iconst 0, 1) := by decide +kernel
theorem dX6_protect_48 : decode cX6_protect 48 = .ok (.istore 4, 2) := by decide +kernel
theorem dX6_protect_50 : decode cX6_protect 50 = .ok (.iload 4, 2) := by decide +kernel
theorem dX6_protect_52 : decode cX6_protect 52 = .ok (.aload_n 0, 1) := by decide +kernel
theorem dX6_protect_53 : decode cX6_protect 53 = .ok (.getfield 43, 3) := by decide +kernel
theorem dX6_protect_56 : decode cX6_protect 56 = .ok (.aload_n 0, 1) := by decide +kernel
theorem dX6_protect_57 : decode cX6_protect 57 = .ok (.getfield 61, 3) := by decide +kernel
theorem dX6_protect_60 : decode cX6_protect 60 = .ok (.iadd, 1) := by decide +kernel
theorem dX6_protect_61 : decode cX6_protect 61 = .ok (.if_icmp .ge 106, 3) := by decide +kernel
theorem dX6_protect_64 : decode cX6_protect 64 = .ok (.aload_n 0, 1) := by decide +kernel
theorem dX6_protect_65 : decode cX6_protect 65 = .ok (.getfield 13, 3) := by decide +kernel
theorem dX6_protect_68 : decode cX6_protect 68 = .ok (.aload_n 0, 1) := by decide +kernel
theorem dX6_protect_69 : decode cX6_protect 69 = .ok (.getfield 75, 3) := by decide +kernel
theorem dX6_protect_72 : decode cX6_protect 72 = .ok (.iload 4, 2) := by decide +kernel
theorem dX6_protect_74 : decode cX6_protect 74 = .ok (.aload_n 0, 1) := by decide +kernel
theorem dX6_protect_75 : decode cX6_protect 75 = .ok (.getfield 43, 3) := by decide +kernel
theorem dX6_protect_78 : decode cX6_protect 78 = .ok (.if_icmp .lt 18, 3) := by decide +kernel
theorem dX6_protect_81 : decode cX6_protect 81 = .ok (.aload_n 0, 1) := by decide +kernel
theorem dX6_protect_82 : decode cX6_protect 82 = .ok (.getfield 7, 3) := by decide +kernel
theorem dX6_protect_85 : decode cX6_protect 85 = .ok (.iload 4, 2) := by decide +kernel
theorem dX6_protect_87 : decode cX6_protect 87 = .ok (.aload_n 0, 1) := by decide +kernel
theorem dX6_protect_88 : decode cX6_protect 88 = .ok (.getfield 43, 3) := by decide +kernel
theorem dX6_protect_91 : decode cX6_protect 91 = .ok (.isub, 1) := by decide +kernel
theorem dX6_protect_92 : decode cX6_protect 92 = .ok (.iaload, 1) := by decide +kernel
theorem dX6_protect_93 : decode cX6_protect 93 = .ok (.goto 42, 3) := by decide +kernel
theorem dX6_protect_96 : decode cX6_protect 96 = .ok (.aload_n 0, 1) := by decide +kernel
theorem dX6_protect_97 : decode cX6_protect 97 = .ok (.getfield 43, 3) := by decide +kernel
theorem dX6_protect_100 : decode cX6_protect 100 = .ok (.iconst 1, 1) := by decide +kernel
theorem dX6_protect_101 : decode cX6_protect 101 = .ok (.if_icmp .ne 10, 3) := by decide +kernel
theorem dX6_protect_104 : decode cX6_protect 104 = .ok (.aload_n 0, 1) := by decide +kernel
theorem dX6_protect_105 : decode cX6_protect 105 = .ok (.getfield 65, 3) := by decide +kernel
theorem dX6_protect_108 : decode cX6_protect 108 = .ok (.goto 27, 3) := by decide +kernel
theorem dX6_protect_111 : decode cX6_protect 111 = .ok (.iload 4, 2) := by decide +kernel
theorem dX6_protect_113 : decode cX6_protect 113 = .ok (.ifCond .ne 14, 3) := by decide +kernel
theorem dX6_protect_116 : decode cX6_protect 116 = .ok (.aload_n 0, 1) := by decide +kernel
theorem dX6_protect_117 : decode cX6_protect 117 = .ok (.getfield 65, 3) := by decide +kernel
theorem dX6_protect_120 : decode cX6_protect 120 = .ok (.sipush 256, 3) := by decide +kernel
theorem dX6_protect_123 : decode cX6_protect 123 = .ok (.idiv, 1) := by decide +kernel
theorem dX6_protect_124 : decode cX6_protect 124 = .ok (.goto 11, 3) := by decide +kernel
theorem dX6_protect_127 : decode cX6_protect 127 = .ok (.aload_n 0, 1) := by decide +kernel
theorem dX6_protect_128 : decode cX6_protect 128 = .ok (.getfield 65, 3) := by decide +kernel
theorem dX6_protect_131 : decode cX6_protect 131 = .ok (.sipush 256, 3) := by decide +kernel
theorem dX6_protect_134 : decode cX6_protect 134 = .ok (.irem, 1) := by decide +kernel
theorem dX6_protect_135 : decode cX6_protect 135 = .ok (.iastore, 1) := by decide +kernel
theorem dX6_protect_136 : decode cX6_protect 136 = .ok (.aload_n 0, 1) := by decide +kernel
theorem dX6_protect_137 : decode cX6_protect 137 = .ok (.lload_n 2, 1) := by decide +kernel
theorem dX6_protect_138 : decode cX6_protect 138 = .ok (.aload_n 0, 1) := by decide +kernel
theorem dX6_protect_139 : decode cX6_protect 139 = .ok (.getfield 13, 3) := by decide +kernel
theorem dX6_protect_142 : decode cX6_protect 142 = .ok (.aload_n 0, 1) := by decide +kernel
theorem dX6_protect_143 : decode cX6_protect 143 = .ok (.getfield 75, 3) := by decide +kernel
theorem dX6_protect_146 : decode cX6_protect 146 = .ok (.iaload, 1) := by decide +kernel
theorem dX6_protect_147 : decode cX6_protect 147 = .ok (.invokevirtual 57, 3) := by decide +kernel
theorem dX6_protect_150 : decode cX6_protect 150 = .ok (.lstore_n 2, 1) := by decide +kernel
theorem dX6_protect_151 : decode cX6_protect 151 = .ok (.aload_n 0, 1) := by decide +kernel
theorem dX6_protect_152 : decode cX6_protect 152 = .ok (.dup, 1) := by decide +kernel
theorem dX6_protect_153 : decode cX6_protect 153 = .ok (.getfield 75, 3) := by decide +kernel
theorem dX6_protect_156 : decode cX6_protect 156 = .ok (.iconst 1, 1) := by decide +kernel
theorem dX6_protect_157 : decode cX6_protect 157 = .ok (.iadd, 1) := by decide +kernel
theorem dX6_protect_158 : decode cX6_protect 158 = .ok (.putfield 75, 3) := by decide +kernel
theorem dX6_protect_161 : decode cX6_protect 161 = .ok (.iinc 4 1, 3) := by decide +kernel
theorem dX6_protect_164 : decode cX6_protect 164 = .ok (.goto (-114), 3) := by decide +kernel
theorem dX6_protect_167 : decode cX6_protect 167 = .ok (.aload_n 0, 1) := by decide +kernel
theorem dX6_protect_168 : decode cX6_protect 168 = .ok (.lload_n 2, 1) := by decide +kernel
theorem dX6_protect_169 : decode cX6_protect 169 = .ok (.invokevirtual 78, 3) := by decide +kernel
theorem dX6_protect_172 : decode cX6_protect 172 = .ok (.lstore 4, 2) := by decide +kernel
theorem dX6_protect_174 : decode cX6_protect 174 = .ok (.aload_n 0, 1) := by decide +kernel
theorem dX6_protect_175 : decode cX6_protect 175 = .ok (.getfield 36, 3) := by decide +kernel
theorem dX6_protect_178 : decode cX6_protect 178 = .ok (.bipush 8, 2) := by decide +kernel
theorem dX6_protect_180 : decode cX6_protect 180 = .ok (.isub, 1) := by decide +kernel
theorem dX6_protect_181 : decode cX6_protect 181 = .ok (.istore 6, 2) := by decide +kernel
theorem dX6_protect_183 : decode cX6_protect 183 = .ok (.iload 6, 2) := by decide +kernel
theorem dX6_protect_185 : decode cX6_protect 185 = .ok (.ifCond .lt 38, 3) := by decide +kernel
theorem dX6_protect_188 : decode cX6_protect 188 = .ok (.aload_n 0, 1) := by decide +kernel
theorem dX6_protect_189 : decode cX6_protect 189 = .ok (.getfield 13, 3) := by decide +kernel
theorem dX6_protect_192 : decode cX6_protect 192 = .ok (.aload_n 0, 1) := by decide +kernel
theorem dX6_protect_193 : decode cX6_protect 193 = .ok (.getfield 75, 3) := by decide +kernel
theorem dX6_protect_196 : decode cX6_protect 196 = .ok (.lload 4, 2) := by decide +kernel
theorem dX6_protect_198 : decode cX6_protect 198 = .ok (.iload 6, 2) := by decide +kernel
theorem dX6_protect_200 : decode cX6_protect 200 = .ok (.lshr, 1) := by decide +kernel
theorem dX6_protect_201 : decode cX6_protect 201 = .ok (.ldc2_w 82, 3) := by decide +kernel
theorem dX6_protect_204 : decode cX6_protect 204 = .ok (.land, 1) := by decide +kernel
theorem dX6_protect_205 : decode cX6_protect 205 = .ok (.l2i, 1) := by decide +kernel
theorem dX6_protect_206 : decode cX6_protect 206 = .ok (.iastore, 1) := by decide +kernel
theorem dX6_protect_207 : decode cX6_protect 207 = .ok (.aload_n 0, 1) := by decide +kernel
theorem dX6_protect_208 : decode cX6_protect 208 = .ok (.dup, 1) := by decide +kernel
theorem dX6_protect_209 : decode cX6_protect 209 = .ok (.getfield 75, 3) := by decide +kernel
theorem dX6_protect_212 : decode cX6_protect 212 = .ok (.iconst 1, 1) := by decide +kernel
theorem dX6_protect_213 : decode cX6_protect 213 = .ok (.iadd, 1) := by decide +kernel
theorem dX6_protect_214 : decode cX6_protect 214 = .ok (.putfield 75, 3) := by decide +kernel
theorem dX6_protect_217 : decode cX6_protect 217 = .ok (.iinc 6 (-8), 3) := by decide +kernel
theorem dX6_protect_220 : decode cX6_protect 220 = .ok (.goto (-37), 3) := by decide +kernel
theorem dX6_protect_223 : decode cX6_protect 223 = .ok (.aload_n 0, 1) := by decide +kernel
theorem dX6_protect_224 : decode cX6_protect 224 = .ok (.getfield 16, 3) := by decide +kernel
theorem dX6_protect_227 : decode cX6_protect 227 = .ok (.ifCond .lt 37, 3) := by decide +kernel
theorem dX6_protect_230 : decode cX6_protect 230 = .ok (.aload_n 0, 1) := by decide +kernel
theorem dX6_protect_231 : decode cX6_protect 231 = .ok (.getfield 16, 3) := by decide +kernel
theorem dX6_protect_234 : decode cX6_protect 234 = .ok (.aload_n 0, 1) := by decide +kernel
theorem dX6_protect_235 : decode cX6_protect 235 = .ok (.getfield 75, 3) := by decide +kernel
theorem dX6_protect_238 : decode cX6_protect 238 = .ok (.if_icmp .ge 26, 3) := by decide +kernel
theorem dX6_protect_241 : decode cX6_protect 241 = .ok (.aload_n 0, 1) := by decide +kernel
theorem dX6_protect_242 : decode cX6_protect 242 = .ok (.getfield 13, 3) := by decide +kernel
theorem dX6_protect_245 : decode cX6_protect 245 = .ok (.aload_n 0, 1) := by decide +kernel
theorem dX6_protect_246 : decode cX6_protect 246 = .ok (.getfield 16, 3) := by decide +kernel
theorem dX6_protect_249 : decode cX6_protect 249 = .ok (.aload_n 0, 1) := by decide +kernel
theorem dX6_protect_250 : decode cX6_protect 250 = .ok (.getfield 13, 3) := by decide +kernel
theorem dX6_protect_253 : decode cX6_protect 253 = .ok (.aload_n 0, 1) := by decide +kernel
theorem dX6_protect_254 : decode cX6_protect 254 = .ok (.getfield 16, 3) := by decide +kernel
theorem dX6_protect_257 : decode cX6_protect 257 = .ok (.iaload, 1) := by decide +kernel
theorem dX6_protect_258 : decode cX6_protect 258 = .ok (.aload_n 0, 1) := by decide +kernel
theorem dX6_protect_259 : decode cX6_protect 259 = .ok (.getfield 84, 3) := by decide +kernel
theorem dX6_protect_262 : decode cX6_protect 262 = .ok (.ixor, 1) := by decide +kernel
theorem dX6_protect_263 : decode cX6_protect 263 = .ok (.iastore, 1) := by decide +kernel
theorem dX6_protect_264 : decode cX6_protect 264 = .ok (.aload_n 0, 1) := by decide +kernel
theorem dX6_protect_265 : decode cX6_protect 265 = .ok (.iconst (-1), 1) := by decide +kernel
theorem dX6_protect_266 : decode cX6_protect 266 = .ok (.putfield 16, 3) := by decide +kernel
theorem dX6_protect_269 : decode cX6_protect 269 = .ok (.aload_n 0, 1) := by decide +kernel
theorem dX6_protect_270 : decode cX6_protect 270 = .ok (.iconst 0, 1) := by decide +kernel
theorem dX6_protect_271 : decode cX6_protect 271 = .ok (.putfield 68, 3) := by decide +kernel
theorem dX6_protect_274 : decode cX6_protect 274 = .ok (.aload_n 0, 1) := by decide +kernel
theorem dX6_protect_275 : decode cX6_protect 275 = .ok (.iconst 0, 1) := by decide +kernel
theorem dX6_protect_276 : decode cX6_protect 276 = .ok (.putfield 61, 3) := by decide +kernel
theorem dX6_protect_279 : decode cX6_protect 279 = .ok (.aload_n 0, 1) := by decide +kernel
theorem dX6_protect_280 : decode cX6_protect 280 = .ok (.aload_n 0, 1) := by decide +kernel
theorem dX6_protect_281 : decode cX6_protect 281 = .ok (.getfield 65, 3) := by decide +kernel
theorem dX6_protect_284 : decode cX6_protect 284 = .ok (.iconst 1, 1) := by decide +kernel
theorem dX6_protect_285 : decode cX6_protect 285 = .ok (.iadd, 1) := by decide +kernel
theorem dX6_protect_286 : decode cX6_protect 286 = .ok (.aload_n 0, 1) := by decide +kernel
theorem dX6_protect_287 : decode cX6_protect 287 = .ok (.getfield 40, 3) := by decide +kernel
theorem dX6_protect_290 : decode cX6_protect 290 = .ok (.irem, 1) := by decide +kernel
theorem dX6_protect_291 : decode cX6_protect 291 = .ok (.putfield 65, 3) := by decide +kernel
theorem dX6_protect_294 : decode cX6_protect 294 = .ok (.aload_n 0, 1) := by decide +kernel
theorem dX6_protect_295 : decode cX6_protect 295 = .ok (.getfield 75, 3) := by decide +kernel
theorem dX6_protect_298 : decode cX6_protect 298 = .ok (.ireturn, 1) := by decide +kernel
theorem dX6_out_0 : decode cX6_out 0 = .ok (.aload_n 0, 1) := by decide +kernel
theorem dX6_out_1 : decode cX6_out 1 = .ok (.iload_n 1, 1) := by decide +kernel
theorem dX6_out_2 : decode cX6_out 2 = .ok (.ifCond .lt 11, 3) := by decide +kernel
theorem dX6_out_5 : decode cX6_out 5 = .ok (.iload_n 1, 1) := by decide +kernel
theorem dX6_out_6 : decode cX6_out 6 = .ok (.aload_n 0, 1) := by decide +kernel
theorem dX6_out_7 : decode cX6_out 7 = .ok (.getfield 75, 3) := by decide +kernel
theorem dX6_out_10 : decode cX6_out 10 = .ok (.if_icmp .lt 7, 3) := by decide +kernel
theorem dX6_out_13 : decode cX6_out 13 = .ok (.iconst 1, 1) := by decide +kernel
theorem dX6_out_14 : decode cX6_out 14 = .ok (.goto 4, 3) := by decide +kernel
theorem dX6_out_17 : decode cX6_out 17 = .ok (.iconst 0, 1) := by decide +kernel
theorem dX6_out_18 : decode cX6_out 18 = .ok (.putfield 46, 3) := by decide +kernel
theorem dX6_out_21 : decode cX6_out 21 = .ok (.aload_n 0, 1) := by decide +kernel
theorem dX6_out_22 : decode cX6_out 22 = .ok (.getfield 46, 3) := by decide +kernel
theorem dX6_out_25 : decode cX6_out 25 = .ok (.ifCond .le 7, 3) := by decide +kernel
theorem dX6_out_28 : decode cX6_out 28 = .ok (.iconst 0, 1) := by decide +kernel
theorem dX6_out_29 : decode cX6_out 29 = .ok (.goto 10, 3) := by decide +kernel
theorem dX6_out_32 : decode cX6_out 32 = .ok (.aload_n 0, 1) := by decide +kernel
theorem dX6_out_33 : decode cX6_out 33 = .ok (.getfield 13, 3) := by decide +kernel
theorem dX6_out_36 : decode cX6_out 36 = .ok (.iload_n 1, 1) := by decide +kernel
theorem dX6_out_37 : decode cX6_out 37 = .ok (.iaload, 1) := by decide +kernel
theorem dX6_out_38 : decode cX6_out 38 = .ok (.i2b, 1) := by decide +kernel
theorem dX6_out_39 : decode cX6_out 39 = .ok (.ireturn, 1) := by decide +kernel
theorem dX6_counter_0 : decode cX6_counter 0 = .ok (.aload_n 0, 1) := by decide +kernel
theorem dX6_counter_1 : decode cX6_counter 1 = .ok (.iconst 0, 1) := by decide +kernel
theorem dX6_counter_2 : decode cX6_counter 2 = .ok (.putfield 46, 3) := by decide +kernel
theorem dX6_counter_5 : decode cX6_counter 5 = .ok (.aload_n 0, 1) := by decide +kernel
theorem dX6_counter_6 : decode cX6_counter 6 = .ok (.getfield 65, 3) := by decide +kernel
theorem dX6_counter_9 : decode cX6_counter 9 = .ok (.ireturn, 1) := by decide +kernel
theorem dX6_plant_0 : decode cX6_plant 0 = .ok (.aload_n 0, 1) := by decide +kernel
theorem dX6_plant_1 : decode cX6_plant 1 = .ok (.iconst 0, 1) := by decide +kernel
theorem dX6_plant_2 : decode cX6_plant 2 = .ok (.putfield 46, 3) := by decide +kernel
theorem dX6_plant_5 : decode cX6_plant 5 = .ok (.iload_n 1, 1) := by decide +kernel
theorem dX6_plant_6 : decode cX6_plant 6 = .ok (.ifCond .lt 8, 3) := by decide +kernel
theorem dX6_plant_9 : decode cX6_plant 9 = .ok (.iload_n 1, 1) := by decide +kernel
theorem dX6_plant_10 : decode cX6_plant 10 = .ok (.iconst 1, 1) := by decide +kernel
theorem dX6_plant_11 : decode cX6_plant 11 = .ok (.if_icmp .le 5, 3) := by decide +kernel
theorem dX6_plant_14 : decode cX6_plant 14 = .ok (.iconst (-1), 1) := by decide +kernel
theorem dX6_plant_15 : decode cX6_plant 15 = .ok (.ireturn, 1) := by decide +kernel
theorem dX6_plant_16 : decode cX6_plant 16 = .ok (.iload_n 2, 1) := by decide +kernel
theorem dX6_plant_17 : decode cX6_plant 17 = .ok (.ifCond .lt 9, 3) := by decide +kernel
theorem dX6_plant_20 : decode cX6_plant 20 = .ok (.iload_n 2, 1) := by decide +kernel
theorem dX6_plant_21 : decode cX6_plant 21 = .ok (.bipush 100, 2) := by decide +kernel
theorem dX6_plant_23 : decode cX6_plant 23 = .ok (.if_icmp .le 6, 3) := by decide +kernel
theorem dX6_plant_26 : decode cX6_plant 26 = .ok (.bipush (-2), 2) := by decide +kernel
theorem dX6_plant_28 : decode cX6_plant 28 = .ok (.ireturn, 1) := by decide +kernel
theorem dX6_plant_29 : decode cX6_plant 29 = .ok (.iload_n 1, 1) := by decide +kernel
theorem dX6_plant_30 : decode cX6_plant 30 = .ok (.ifCond .ne 20, 3) := by decide +kernel
theorem dX6_plant_33 : decode cX6_plant 33 = .ok (.aload_n 0, 1) := by decide +kernel
theorem dX6_plant_34 : decode cX6_plant 34 = .ok (.iload_n 2, 1) := by decide +kernel
theorem dX6_plant_35 : decode cX6_plant 35 = .ok (.putfield 16, 3) := by decide +kernel
theorem dX6_plant_38 : decode cX6_plant 38 = .ok (.aload_n 0, 1) := by decide +kernel
theorem dX6_plant_39 : decode cX6_plant 39 = .ok (.iload_n 3, 1) := by decide +kernel
theorem dX6_plant_40 : decode cX6_plant 40 = .ok (.sipush 255, 3) := by decide +kernel
theorem dX6_plant_43 : decode cX6_plant 43 = .ok (.iand, 1) := by decide +kernel
theorem dX6_plant_44 : decode cX6_plant 44 = .ok (.putfield 84, 3) := by decide +kernel
theorem dX6_plant_47 : decode cX6_plant 47 = .ok (.goto 8, 3) := by decide +kernel
theorem dX6_plant_50 : decode cX6_plant 50 = .ok (.aload_n 0, 1) := by decide +kernel
theorem dX6_plant_51 : decode cX6_plant 51 = .ok (.iload_n 2, 1) := by decide +kernel
theorem dX6_plant_52 : decode cX6_plant 52 = .ok (.putfield 68, 3) := by decide +kernel
theorem dX6_plant_55 : decode cX6_plant 55 = .ok (.iconst 1, 1) := by decide +kernel
theorem dX6_plant_56 : decode cX6_plant 56 = .ok (.ireturn, 1) := by decide +kernel
set_option maxRecDepth 20000 in
theorem ggX6_find_X6_begin : GoodIn wsX6_find wsX6_begin := goodIn_r _ [12, 1, 13, 14, 15, 11, 16, 17, 18, 19, 20, 21, 26, 27, 28, 29, 30, 31, 32, 33, 34, 35, 36, 37, 38, 39, 40, 41, 42, 43, 44, 45, 46, 47, 48] (by decide +kernel) (by decide +kernel)
set_option maxRecDepth 20000 in
theorem gX6_find_X6_begin : GoodIn wsX6_find (wsV RX6 71 RX6 yX6_begin wsX6_begin) := goodIn_app (goodIn_of _ (by decide +kernel)) ggX6_find_X6_begin
set_option maxRecDepth 20000 in
theorem ggX6_find_X6_add : GoodIn wsX6_find wsX6_add := goodIn_r _ [16, 1, 17, 18, 19, 20, 21, 26, 27, 28, 29, 30, 31, 32, 33, 34, 35, 36, 37, 38, 39, 40, 41, 42, 43, 44, 45, 46, 47, 48] (by decide +kernel) (by decide +kernel)
set_option maxRecDepth 20000 in
theorem gX6_find_X6_add : GoodIn wsX6_find (wsV RX6 57 RX6 yX6_add wsX6_add) := goodIn_app (goodIn_of _ (by decide +kernel)) ggX6_find_X6_add
set_option maxRecDepth 20000 in
theorem ggX6_find_X6_end : GoodIn wsX6_find wsX6_end := goodIn_r _ [25, 17, 1, 26, 27, 28, 29, 30, 31, 32, 33, 34, 35, 36, 37, 38, 39, 40, 41, 42, 43, 44, 45, 46, 47, 48] (by decide +kernel) (by decide +kernel)
set_option maxRecDepth 20000 in
theorem gX6_find_X6_end : GoodIn wsX6_find (wsV RX6 78 RX6 yX6_end wsX6_end) := goodIn_app (goodIn_of _ (by decide +kernel)) ggX6_find_X6_end
theorem dX6_find_0 : decode cX6_find 0 = .ok (.aload_n 0, 1) := by decide +kernel
theorem dX6_find_1 : decode cX6_find 1 = .ok (.getfield 36, 3) := by decide +kernel
theorem dX6_find_4 : decode cX6_find 4 = .ok (.bipush 8, 2) := by decide +kernel
theorem dX6_find_6 : decode cX6_find 6 = .ok (.idiv, 1) := by decide +kernel
theorem dX6_find_7 : decode cX6_find 7 = .ok (.istore_n 2, 1) := by decide +kernel
theorem dX6_find_8 : decode cX6_find 8 = .ok (.aload_n 0, 1) := by decide +kernel
theorem dX6_find_9 : decode cX6_find 9 = .ok (.getfield 87, 3) := by decide +kernel
theorem dX6_find_12 : decode cX6_find 12 = .ok (.iload_n 2, 1) := by decide +kernel
theorem dX6_find_13 : decode cX6_find 13 = .ok (.isub, 1) := by decide +kernel
theorem dX6_find_14 : decode cX6_find 14 = .ok (.istore_n 3, 1) := by decide +kernel
theorem dX6_find_15 : decode cX6_find 15 = .ok (.aload_n 0, 1) := by decide +kernel
theorem dX6_find_16 : decode cX6_find 16 = .ok (.getfield 87, 3) := by decide +kernel
theorem dX6_find_19 : decode cX6_find 19 = .ok (.bipush 70, 2) := by decide +kernel
theorem dX6_find_21 : decode cX6_find 21 = .ok (.if_icmp .gt 11, 3) := by decide +kernel
theorem dX6_find_24 : decode cX6_find 24 = .ok (.iload_n 3, 1) := by decide +kernel
theorem dX6_find_25 : decode cX6_find 25 = .ok (.aload_n 0, 1) := by decide +kernel
theorem dX6_find_26 : decode cX6_find 26 = .ok (.getfield 43, 3) := by decide +kernel
theorem dX6_find_29 : decode cX6_find 29 = .ok (.if_icmp .ge 5, 3) := by decide +kernel
theorem dX6_find_32 : decode cX6_find 32 = .ok (.iconst 4, 1) := by decide +kernel
theorem dX6_find_33 : decode cX6_find 33 = .ok (.ireturn, 1) := by decide +kernel
theorem dX6_find_34 : decode cX6_find 34 = .ok (.aload_n 0, 1) := by decide +kernel
theorem dX6_find_35 : decode cX6_find 35 = .ok (.iload_n 1, 1) := by decide +kernel
theorem dX6_find_36 : decode cX6_find 36 = .ok (.invokevirtual 71, 3) := by decide +kernel
theorem dX6_find_39 : decode cX6_find 39 = .ok (.lstore 4, 2) := by decide +kernel
theorem dX6_find_41 : decode cX6_find 41 = .ok (.iconst 0, 1) := by decide +kernel
theorem dX6_find_42 : decode cX6_find 42 = .ok (.istore 6, 2) := by decide +kernel
theorem dX6_find_44 : decode cX6_find 44 = .ok (.iload 6, 2) := by decide +kernel
theorem dX6_find_46 : decode cX6_find 46 = .ok (.iload_n 3, 1) := by decide +kernel
theorem dX6_find_47 : decode cX6_find 47 = .ok (.if_icmp .ge 24, 3) := by decide +kernel
theorem dX6_find_50 : decode cX6_find 50 = .ok (.aload_n 0, 1) := by decide +kernel
theorem dX6_find_51 : decode cX6_find 51 = .ok (.lload 4, 2) := by decide +kernel
theorem dX6_find_53 : decode cX6_find 53 = .ok (.aload_n 0, 1) := by decide +kernel
theorem dX6_find_54 : decode cX6_find 54 = .ok (.getfield 20, 3) := by decide +kernel
theorem dX6_find_57 : decode cX6_find 57 = .ok (.iload 6, 2) := by decide +kernel
theorem dX6_find_59 : decode cX6_find 59 = .ok (.iaload, 1) := by decide +kernel
theorem dX6_find_60 : decode cX6_find 60 = .ok (.invokevirtual 57, 3) := by decide +kernel
theorem dX6_find_63 : decode cX6_find 63 = .ok (.lstore 4, 2) := by decide +kernel
theorem dX6_find_65 : decode cX6_find 65 = .ok (.iinc 6 1, 3) := by decide +kernel
theorem dX6_find_68 : decode cX6_find 68 = .ok (.goto (-24), 3) := by decide +kernel
theorem dX6_find_71 : decode cX6_find 71 = .ok (.lconst 0, 1) := by decide +kernel
theorem dX6_find_72 : decode cX6_find 72 = .ok (.lstore 6, 2) := by decide +kernel
theorem dX6_find_74 : decode cX6_find 74 = .ok (.iload_n 3, 1) := by decide +kernel
theorem dX6_find_75 : decode cX6_find 75 = .ok (.istore 8, 2) := by decide +kernel
theorem dX6_find_77 : decode cX6_find 77 = .ok (.iload 8, 2) := by decide +kernel
theorem dX6_find_79 : decode cX6_find 79 = .ok (.aload_n 0, 1) := by decide +kernel
theorem dX6_find_80 : decode cX6_find 80 = .ok (.getfield 87, 3) := by decide +kernel
theorem dX6_find_83 : decode cX6_find 83 = .ok (.if_icmp .ge 26, 3) := by decide +kernel
theorem dX6_find_86 : decode cX6_find 86 = .ok (.lload 6, 2) := by decide +kernel
theorem dX6_find_88 : decode cX6_find 88 = .ok (.ldc2_w 90, 3) := by decide +kernel
theorem dX6_find_91 : decode cX6_find 91 = .ok (.lmul, 1) := by decide +kernel
theorem dX6_find_92 : decode cX6_find 92 = .ok (.aload_n 0, 1) := by decide +kernel
theorem dX6_find_93 : decode cX6_find 93 = .ok (.getfield 20, 3) := by decide +kernel
theorem dX6_find_96 : decode cX6_find 96 = .ok (.iload 8, 2) := by decide +kernel
theorem dX6_find_98 : decode cX6_find 98 = .ok (.iaload, 1) := by decide +kernel
theorem dX6_find_99 : decode cX6_find 99 = .ok (.i2l, 1) := by decide +kernel
theorem dX6_find_100 : decode cX6_find 100 = .ok (.ladd, 1) := by decide +kernel
theorem dX6_find_101 : decode cX6_find 101 = .ok (.lstore 6, 2) := by decide +kernel
theorem dX6_find_103 : decode cX6_find 103 = .ok (.iinc 8 1, 3) := by decide +kernel
theorem dX6_find_106 : decode cX6_find 106 = .ok (.goto (-29), 3) := by decide +kernel
theorem dX6_find_109 : decode cX6_find 109 = .ok (.aload_n 0, 1) := by decide +kernel
theorem dX6_find_110 : decode cX6_find 110 = .ok (.getfield 43, 3) := by decide +kernel
theorem dX6_find_113 : decode cX6_find 113 = .ok (.iconst 1, 1) := by decide +kernel
theorem dX6_find_114 : decode cX6_find 114 = .ok (.if_icmp .ne 12, 3) := by decide +kernel
theorem dX6_find_117 : decode cX6_find 117 = .ok (.aload_n 0, 1) := by decide +kernel
theorem dX6_find_118 : decode cX6_find 118 = .ok (.getfield 20, 3) := by decide +kernel
theorem dX6_find_121 : decode cX6_find 121 = .ok (.iconst 0, 1) := by decide +kernel
theorem dX6_find_122 : decode cX6_find 122 = .ok (.iaload, 1) := by decide +kernel
theorem dX6_find_123 : decode cX6_find 123 = .ok (.goto 20, 3) := by decide +kernel
theorem dX6_find_126 : decode cX6_find 126 = .ok (.sipush 256, 3) := by decide +kernel
theorem dX6_find_129 : decode cX6_find 129 = .ok (.aload_n 0, 1) := by decide +kernel
theorem dX6_find_130 : decode cX6_find 130 = .ok (.getfield 20, 3) := by decide +kernel
theorem dX6_find_133 : decode cX6_find 133 = .ok (.iconst 0, 1) := by decide +kernel
theorem dX6_find_134 : decode cX6_find 134 = .ok (.iaload, 1) := by decide +kernel
theorem dX6_find_135 : decode cX6_find 135 = .ok (.imul, 1) := by decide +kernel
theorem dX6_find_136 : decode cX6_find 136 = .ok (.aload_n 0, 1) := by decide +kernel
theorem dX6_find_137 : decode cX6_find 137 = .ok (.getfield 20, 3) := by decide +kernel
theorem dX6_find_140 : decode cX6_find 140 = .ok (.iconst 1, 1) := by decide +kernel
theorem dX6_find_141 : decode cX6_find 141 = .ok (.iaload, 1) := by decide +kernel
theorem dX6_find_142 : decode cX6_find 142 = .ok (.iadd, 1) := by decide +kernel
theorem dX6_find_143 : decode cX6_find 143 = .ok (.istore 8, 2) := by decide +kernel
theorem dX6_find_145 : decode cX6_find 145 = .ok (.lload 6, 2) := by decide +kernel
theorem dX6_find_147 : decode cX6_find 147 = .ok (.aload_n 0, 1) := by decide +kernel
theorem dX6_find_148 : decode cX6_find 148 = .ok (.lload 4, 2) := by decide +kernel
theorem dX6_find_150 : decode cX6_find 150 = .ok (.invokevirtual 78, 3) := by decide +kernel
theorem dX6_find_153 : decode cX6_find 153 = .ok (.lcmp, 1) := by decide +kernel
theorem dX6_find_154 : decode cX6_find 154 = .ok (.ifCond .ne 12, 3) := by decide +kernel
theorem dX6_find_157 : decode cX6_find 157 = .ok (.iload 8, 2) := by decide +kernel
theorem dX6_find_159 : decode cX6_find 159 = .ok (.aload_n 0, 1) := by decide +kernel
theorem dX6_find_160 : decode cX6_find 160 = .ok (.getfield 40, 3) := by decide +kernel
theorem dX6_find_163 : decode cX6_find 163 = .ok (.if_icmp .lt 5, 3) := by decide +kernel
theorem dX6_find_166 : decode cX6_find 166 = .ok (.iconst 4, 1) := by decide +kernel
theorem dX6_find_167 : decode cX6_find 167 = .ok (.ireturn, 1) := by decide +kernel
theorem dX6_find_168 : decode cX6_find 168 = .ok (.iload 8, 2) := by decide +kernel
theorem dX6_find_170 : decode cX6_find 170 = .ok (.aload_n 0, 1) := by decide +kernel
theorem dX6_find_171 : decode cX6_find 171 = .ok (.getfield 23, 3) := by decide +kernel
theorem dX6_find_174 : decode cX6_find 174 = .ok (.isub, 1) := by decide +kernel
theorem dX6_find_175 : decode cX6_find 175 = .ok (.aload_n 0, 1) := by decide +kernel
theorem dX6_find_176 : decode cX6_find 176 = .ok (.getfield 40, 3) := by decide +kernel
theorem dX6_find_179 : decode cX6_find 179 = .ok (.iadd, 1) := by decide +kernel
theorem dX6_find_180 : decode cX6_find 180 = .ok (.aload_n 0, 1) := by decide +kernel
theorem dX6_find_181 : decode cX6_find 181 = .ok (.getfield 40, 3) := by decide +kernel
theorem dX6_find_184 : decode cX6_find 184 = .ok (.irem, 1) := by decide +kernel
theorem dX6_find_185 : decode cX6_find 185 = .ok (.istore 9, 2) := by decide +kernel
theorem dX6_find_187 : decode cX6_find 187 = .ok (.aload_n 0, 1) := by decide +kernel
theorem dX6_find_188 : decode cX6_find 188 = .ok (.getfield 23, 3) := by decide +kernel
theorem dX6_find_191 : decode cX6_find 191 = .ok (.ifCond .ge 7, 3) := by decide +kernel
theorem dX6_find_194 : decode cX6_find 194 = .ok (.iconst 1, 1) := by decide +kernel
theorem dX6_find_195 : decode cX6_find 195 = .ok (.goto 4, 3) := by decide +kernel
theorem dX6_find_198 : decode cX6_find 198 = .ok (.iconst 0, 1) := by decide +kernel
theorem dX6_find_199 : decode cX6_find 199 = .ok (.istore 10, 2) := by decide +kernel
theorem dX6_find_201 : decode cX6_find 201 = .ok (.aload_n 0, 1) := by decide +kernel
theorem dX6_find_202 : decode cX6_find 202 = .ok (.iload 8, 2) := by decide +kernel
theorem dX6_find_204 : decode cX6_find 204 = .ok (.putfield 23, 3) := by decide +kernel
theorem dX6_find_207 : decode cX6_find 207 = .ok (.iload 10, 2) := by decide +kernel
theorem dX6_find_209 : decode cX6_find 209 = .ok (.ifCond .eq 5, 3) := by decide +kernel
theorem dX6_find_212 : decode cX6_find 212 = .ok (.iconst 5, 1) := by decide +kernel
theorem dX6_find_213 : decode cX6_find 213 = .ok (.ireturn, 1) := by decide +kernel
theorem dX6_find_214 : decode cX6_find 214 = .ok (.iload 9, 2) := by decide +kernel
theorem dX6_find_216 : decode cX6_find 216 = .ok (.iconst 2, 1) := by decide +kernel
theorem dX6_find_217 : decode cX6_find 217 = .ok (.if_icmp .ge 8, 3) := by decide +kernel
theorem dX6_find_220 : decode cX6_find 220 = .ok (.iconst 1, 1) := by decide +kernel
theorem dX6_find_221 : decode cX6_find 221 = .ok (.iload 9, 2) := by decide +kernel
theorem dX6_find_223 : decode cX6_find 223 = .ok (.isub, 1) := by decide +kernel
theorem dX6_find_224 : decode cX6_find 224 = .ok (.ireturn, 1) := by decide +kernel
theorem dX6_find_225 : decode cX6_find 225 = .ok (.iload 9, 2) := by decide +kernel
theorem dX6_find_227 : decode cX6_find 227 = .ok (.iconst 4, 1) := by decide +kernel
theorem dX6_find_228 : decode cX6_find 228 = .ok (.if_icmp .ge 7, 3) := by decide +kernel
theorem dX6_find_231 : decode cX6_find 231 = .ok (.iconst 2, 1) := by decide +kernel
theorem dX6_find_232 : decode cX6_find 232 = .ok (.goto 4, 3) := by decide +kernel
theorem dX6_find_235 : decode cX6_find 235 = .ok (.iconst 3, 1) := by decide +kernel
theorem dX6_find_236 : decode cX6_find 236 = .ok (.ireturn, 1) := by decide +kernel
theorem dX6_good_0 : decode cX6_good 0 = .ok (.iload_n 0, 1) := by decide +kernel
theorem dX6_good_1 : decode cX6_good 1 = .ok (.ifCond .eq 13, 3) := by decide +kernel
theorem dX6_good_4 : decode cX6_good 4 = .ok (.iload_n 0, 1) := by decide +kernel
theorem dX6_good_5 : decode cX6_good 5 = .ok (.iconst 2, 1) := by decide +kernel
theorem dX6_good_6 : decode cX6_good 6 = .ok (.if_icmp .eq 8, 3) := by decide +kernel
theorem dX6_good_9 : decode cX6_good 9 = .ok (.iload_n 0, 1) := by decide +kernel
theorem dX6_good_10 : decode cX6_good 10 = .ok (.iconst 5, 1) := by decide +kernel
theorem dX6_good_11 : decode cX6_good 11 = .ok (.if_icmp .ne 7, 3) := by decide +kernel
theorem dX6_good_14 : decode cX6_good 14 = .ok (.iconst 1, 1) := by decide +kernel
theorem dX6_good_15 : decode cX6_good 15 = .ok (.goto 4, 3) := by decide +kernel
theorem dX6_good_18 : decode cX6_good 18 = .ok (.iconst 0, 1) := by decide +kernel
theorem dX6_good_19 : decode cX6_good 19 = .ok (.ireturn, 1) := by decide +kernel
set_option maxRecDepth 20000 in
theorem ggX6_check_X6_find : GoodIn wsX6_check wsX6_find := goodIn_r _ [16, 17, 3, 18, 4, 19, 20, 21, 22, 23, 24, 15, 25, 26, 27, 28, 29, 30, 31, 32, 33, 34, 35, 36, 37, 38, 42, 43, 44, 45, 46, 47, 48, 49, 50, 51, 52, 53, 54, 55, 56, 57, 58, 59, 60, 61, 62, 63, 64] (by decide +kernel) (by decide +kernel)
set_option maxRecDepth 20000 in
theorem gX6_check_X6_find : GoodIn wsX6_check (wsV RX6 92 RX6 yX6_find wsX6_find) := goodIn_app (goodIn_of _ (by decide +kernel)) ggX6_check_X6_find
set_option maxRecDepth 20000 in
theorem ggX6_check_X6_good : GoodIn wsX6_check wsX6_good := goodIn_r _ [41] (by decide +kernel) (by decide +kernel)
set_option maxRecDepth 20000 in
theorem gX6_check_X6_good : GoodIn wsX6_check (va_wsS RX6 96 yX6_good wsX6_good) := goodIn_app (goodIn_of _ (by decide +kernel)) ggX6_check_X6_good
theorem dX6_check_0 : decode cX6_check 0 = .ok (.aload_n 0, 1) := by decide +kernel
theorem dX6_check_1 : decode cX6_check 1 = .ok (.iconst 0, 1) := by decide +kernel
theorem dX6_check_2 : decode cX6_check 2 = .ok (.putfield 46, 3) := by decide +kernel
theorem dX6_check_5 : decode cX6_check 5 = .ok (.iload_n 3, 1) := by decide +kernel
theorem dX6_check_6 : decode cX6_check 6 = .ok (.ifCond .eq 16, 3) := by decide +kernel
theorem dX6_check_9 : decode cX6_check 9 = .ok (.iload_n 1, 1) := by decide +kernel
theorem dX6_check_10 : decode cX6_check 10 = .ok (.ifCond .lt 9, 3) := by decide +kernel
theorem dX6_check_13 : decode cX6_check 13 = .ok (.iload_n 1, 1) := by decide +kernel
theorem dX6_check_14 : decode cX6_check 14 = .ok (.ldc 64, 2) := by decide +kernel
theorem dX6_check_16 : decode cX6_check 16 = .ok (.if_icmp .le 6, 3) := by decide +kernel
theorem dX6_check_19 : decode cX6_check 19 = .ok (.bipush (-2), 2) := by decide +kernel
theorem dX6_check_21 : decode cX6_check 21 = .ok (.ireturn, 1) := by decide +kernel
theorem dX6_check_22 : decode cX6_check 22 = .ok (.aload_n 0, 1) := by decide +kernel
theorem dX6_check_23 : decode cX6_check 23 = .ok (.getfield 87, 3) := by decide +kernel
theorem dX6_check_26 : decode cX6_check 26 = .ok (.bipush 70, 2) := by decide +kernel
theorem dX6_check_28 : decode cX6_check 28 = .ok (.if_icmp .ge 17, 3) := by decide +kernel
theorem dX6_check_31 : decode cX6_check 31 = .ok (.aload_n 0, 1) := by decide +kernel
theorem dX6_check_32 : decode cX6_check 32 = .ok (.getfield 20, 3) := by decide +kernel
theorem dX6_check_35 : decode cX6_check 35 = .ok (.aload_n 0, 1) := by decide +kernel
theorem dX6_check_36 : decode cX6_check 36 = .ok (.getfield 87, 3) := by decide +kernel
theorem dX6_check_39 : decode cX6_check 39 = .ok (.iload_n 2, 1) := by decide +kernel
theorem dX6_check_40 : decode cX6_check 40 = .ok (.sipush 255, 3) := by decide +kernel
theorem dX6_check_43 : decode cX6_check 43 = .ok (.iand, 1) := by decide +kernel
theorem dX6_check_44 : decode cX6_check 44 = .ok (.iastore, 1) := by decide +kernel
theorem dX6_check_45 : decode cX6_check 45 = .ok (.aload_n 0, 1) := by decide +kernel
theorem dX6_check_46 : decode cX6_check 46 = .ok (.aload_n 0, 1) := by decide +kernel
theorem dX6_check_47 : decode cX6_check 47 = .ok (.getfield 87, 3) := by decide +kernel
theorem dX6_check_50 : decode cX6_check 50 = .ok (.bipush 71, 2) := by decide +kernel
theorem dX6_check_52 : decode cX6_check 52 = .ok (.if_icmp .ge 12, 3) := by decide +kernel
theorem dX6_check_55 : decode cX6_check 55 = .ok (.aload_n 0, 1) := by decide +kernel
theorem dX6_check_56 : decode cX6_check 56 = .ok (.getfield 87, 3) := by decide +kernel
theorem dX6_check_59 : decode cX6_check 59 = .ok (.iconst 1, 1) := by decide +kernel
theorem dX6_check_60 : decode cX6_check 60 = .ok (.iadd, 1) := by decide +kernel
theorem dX6_check_61 : decode cX6_check 61 = .ok (.goto 7, 3) := by decide +kernel
theorem dX6_check_64 : decode cX6_check 64 = .ok (.aload_n 0, 1) := by decide +kernel
theorem dX6_check_65 : decode cX6_check 65 = .ok (.getfield 87, 3) := by decide +kernel
theorem dX6_check_68 : decode cX6_check 68 = .ok (.putfield 87, 3) := by decide +kernel
theorem dX6_check_71 : decode cX6_check 71 = .ok (.iload_n 3, 1) := by decide +kernel
theorem dX6_check_72 : decode cX6_check 72 = .ok (.ifCond .ne 5, 3) := by decide +kernel
theorem dX6_check_75 : decode cX6_check 75 = .ok (.iconst 0, 1) := by decide +kernel
theorem dX6_check_76 : decode cX6_check 76 = .ok (.ireturn, 1) := by decide +kernel
theorem dX6_check_77 : decode cX6_check 77 = .ok (.aload_n 0, 1) := by decide +kernel
theorem dX6_check_78 : decode cX6_check 78 = .ok (.iload_n 1, 1) := by decide +kernel
theorem dX6_check_79 : decode cX6_check 79 = .ok (.invokevirtual 92, 3) := by decide +kernel
theorem dX6_check_82 : decode cX6_check 82 = .ok (.istore 4, 2) := by decide +kernel
theorem dX6_check_84 : decode cX6_check 84 = .ok (.aload_n 0, 1) := by decide +kernel
theorem dX6_check_85 : decode cX6_check 85 = .ok (.iconst 0, 1) := by decide +kernel
theorem dX6_check_86 : decode cX6_check 86 = .ok (.putfield 87, 3) := by decide +kernel
theorem dX6_check_89 : decode cX6_check 89 = .ok (.aload_n 0, 1) := by decide +kernel
theorem dX6_check_90 : decode cX6_check 90 = .ok (.getfield 29, 3) := by decide +kernel
theorem dX6_check_93 : decode cX6_check 93 = .ok (.iload 4, 2) := by decide +kernel
theorem dX6_check_95 : decode cX6_check 95 = .ok (.iconst 1, 1) := by decide +kernel
theorem dX6_check_96 : decode cX6_check 96 = .ok (.bastore, 1) := by decide +kernel
theorem dX6_check_97 : decode cX6_check 97 = .ok (.aload_n 0, 1) := by decide +kernel
theorem dX6_check_98 : decode cX6_check 98 = .ok (.iload 4, 2) := by decide +kernel
theorem dX6_check_100 : decode cX6_check 100 = .ok (.invokestatic 96, 3) := by decide +kernel
theorem dX6_check_103 : decode cX6_check 103 = .ok (.ifCond .eq 12, 3) := by decide +kernel
theorem dX6_check_106 : decode cX6_check 106 = .ok (.aload_n 0, 1) := by decide +kernel
theorem dX6_check_107 : decode cX6_check 107 = .ok (.getfield 100, 3) := by decide +kernel
theorem dX6_check_110 : decode cX6_check 110 = .ok (.iconst 1, 1) := by decide +kernel
theorem dX6_check_111 : decode cX6_check 111 = .ok (.iadd, 1) := by decide +kernel
theorem dX6_check_112 : decode cX6_check 112 = .ok (.goto 7, 3) := by decide +kernel
theorem dX6_check_115 : decode cX6_check 115 = .ok (.aload_n 0, 1) := by decide +kernel
theorem dX6_check_116 : decode cX6_check 116 = .ok (.getfield 100, 3) := by decide +kernel
theorem dX6_check_119 : decode cX6_check 119 = .ok (.putfield 100, 3) := by decide +kernel
theorem dX6_check_122 : decode cX6_check 122 = .ok (.aload_n 0, 1) := by decide +kernel
theorem dX6_check_123 : decode cX6_check 123 = .ok (.iload 4, 2) := by decide +kernel
theorem dX6_check_125 : decode cX6_check 125 = .ok (.invokestatic 96, 3) := by decide +kernel
theorem dX6_check_128 : decode cX6_check 128 = .ok (.ifCond .eq 10, 3) := by decide +kernel
theorem dX6_check_131 : decode cX6_check 131 = .ok (.aload_n 0, 1) := by decide +kernel
theorem dX6_check_132 : decode cX6_check 132 = .ok (.getfield 103, 3) := by decide +kernel
theorem dX6_check_135 : decode cX6_check 135 = .ok (.goto 7, 3) := by decide +kernel
theorem dX6_check_138 : decode cX6_check 138 = .ok (.aload_n 0, 1) := by decide +kernel
theorem dX6_check_139 : decode cX6_check 139 = .ok (.getfield 107, 3) := by decide +kernel
theorem dX6_check_142 : decode cX6_check 142 = .ok (.putfield 107, 3) := by decide +kernel
theorem dX6_check_145 : decode cX6_check 145 = .ok (.aload_n 0, 1) := by decide +kernel
theorem dX6_check_146 : decode cX6_check 146 = .ok (.aload_n 0, 1) := by decide +kernel
theorem dX6_check_147 : decode cX6_check 147 = .ok (.getfield 110, 3) := by decide +kernel
theorem dX6_check_150 : decode cX6_check 150 = .ok (.bipush 10, 2) := by decide +kernel
theorem dX6_check_152 : decode cX6_check 152 = .ok (.if_icmp .ge 12, 3) := by decide +kernel
theorem dX6_check_155 : decode cX6_check 155 = .ok (.aload_n 0, 1) := by decide +kernel
theorem dX6_check_156 : decode cX6_check 156 = .ok (.getfield 110, 3) := by decide +kernel
theorem dX6_check_159 : decode cX6_check 159 = .ok (.iconst 1, 1) := by decide +kernel
theorem dX6_check_160 : decode cX6_check 160 = .ok (.iadd, 1) := by decide +kernel
theorem dX6_check_161 : decode cX6_check 161 = .ok (.goto 7, 3) := by decide +kernel
theorem dX6_check_164 : decode cX6_check 164 = .ok (.aload_n 0, 1) := by decide +kernel
theorem dX6_check_165 : decode cX6_check 165 = .ok (.getfield 110, 3) := by decide +kernel
theorem dX6_check_168 : decode cX6_check 168 = .ok (.putfield 110, 3) := by decide +kernel
theorem dX6_check_171 : decode cX6_check 171 = .ok (.aload_n 0, 1) := by decide +kernel
theorem dX6_check_172 : decode cX6_check 172 = .ok (.getfield 110, 3) := by decide +kernel
theorem dX6_check_175 : decode cX6_check 175 = .ok (.iconst 1, 1) := by decide +kernel
theorem dX6_check_176 : decode cX6_check 176 = .ok (.isub, 1) := by decide +kernel
theorem dX6_check_177 : decode cX6_check 177 = .ok (.istore 5, 2) := by decide +kernel
theorem dX6_check_179 : decode cX6_check 179 = .ok (.iload 5, 2) := by decide +kernel
theorem dX6_check_181 : decode cX6_check 181 = .ok (.ifCond .le 25, 3) := by decide +kernel
theorem dX6_check_184 : decode cX6_check 184 = .ok (.aload_n 0, 1) := by decide +kernel
theorem dX6_check_185 : decode cX6_check 185 = .ok (.getfield 26, 3) := by decide +kernel
theorem dX6_check_188 : decode cX6_check 188 = .ok (.iload 5, 2) := by decide +kernel
theorem dX6_check_190 : decode cX6_check 190 = .ok (.aload_n 0, 1) := by decide +kernel
theorem dX6_check_191 : decode cX6_check 191 = .ok (.getfield 26, 3) := by decide +kernel
theorem dX6_check_194 : decode cX6_check 194 = .ok (.iload 5, 2) := by decide +kernel
theorem dX6_check_196 : decode cX6_check 196 = .ok (.iconst 1, 1) := by decide +kernel
theorem dX6_check_197 : decode cX6_check 197 = .ok (.isub, 1) := by decide +kernel
theorem dX6_check_198 : decode cX6_check 198 = .ok (.iaload, 1) := by decide +kernel
theorem dX6_check_199 : decode cX6_check 199 = .ok (.iastore, 1) := by decide +kernel
theorem dX6_check_200 : decode cX6_check 200 = .ok (.iinc 5 (-1), 3) := by decide +kernel
theorem dX6_check_203 : decode cX6_check 203 = .ok (.goto (-24), 3) := by decide +kernel
theorem dX6_check_206 : decode cX6_check 206 = .ok (.aload_n 0, 1) := by decide +kernel
theorem dX6_check_207 : decode cX6_check 207 = .ok (.getfield 26, 3) := by decide +kernel
theorem dX6_check_210 : decode cX6_check 210 = .ok (.iconst 0, 1) := by decide +kernel
theorem dX6_check_211 : decode cX6_check 211 = .ok (.iload 4, 2) := by decide +kernel
theorem dX6_check_213 : decode cX6_check 213 = .ok (.iastore, 1) := by decide +kernel
theorem dX6_check_214 : decode cX6_check 214 = .ok (.iconst 0, 1) := by decide +kernel
theorem dX6_check_215 : decode cX6_check 215 = .ok (.istore 5, 2) := by decide +kernel
theorem dX6_check_217 : decode cX6_check 217 = .ok (.iconst 0, 1) := by decide +kernel
theorem dX6_check_218 : decode cX6_check 218 = .ok (.istore 6, 2) := by decide +kernel
theorem dX6_check_220 : decode cX6_check 220 = .ok (.iconst 0, 1) := by decide +kernel
theorem dX6_check_221 : decode cX6_check 221 = .ok (.istore 7, 2) := by decide +kernel
theorem dX6_check_223 : decode cX6_check 223 = .ok (.iload 7, 2) := by decide +kernel
theorem dX6_check_225 : decode cX6_check 225 = .ok (.aload_n 0, 1) := by decide +kernel
theorem dX6_check_226 : decode cX6_check 226 = .ok (.getfield 110, 3) := by decide +kernel
theorem dX6_check_229 : decode cX6_check 229 = .ok (.if_icmp .ge 66, 3) := by decide +kernel
theorem dX6_check_232 : decode cX6_check 232 = .ok (.aload_n 0, 1) := by decide +kernel
theorem dX6_check_233 : decode cX6_check 233 = .ok (.getfield 26, 3) := by decide +kernel
theorem dX6_check_236 : decode cX6_check 236 = .ok (.iload 7, 2) := by decide +kernel
theorem dX6_check_238 : decode cX6_check 238 = .ok (.iaload, 1) := by decide +kernel
theorem dX6_check_239 : decode cX6_check 239 = .ok (.invokestatic 96, 3) := by decide +kernel
theorem dX6_check_242 : decode cX6_check 242 = .ok (.ifCond .eq 10, 3) := by decide +kernel
theorem dX6_check_245 : decode cX6_check 245 = .ok (.iload 5, 2) := by decide +kernel
theorem dX6_check_247 : decode cX6_check 247 = .ok (.iconst 1, 1) := by decide +kernel
theorem dX6_check_248 : decode cX6_check 248 = .ok (.iadd, 1) := by decide +kernel
theorem dX6_check_249 : decode cX6_check 249 = .ok (.goto 5, 3) := by decide +kernel
theorem dX6_check_252 : decode cX6_check 252 = .ok (.iload 5, 2) := by decide +kernel
theorem dX6_check_254 : decode cX6_check 254 = .ok (.istore 5, 2) := by decide +kernel
theorem dX6_check_256 : decode cX6_check 256 = .ok (.aload_n 0, 1) := by decide +kernel
theorem dX6_check_257 : decode cX6_check 257 = .ok (.getfield 26, 3) := by decide +kernel
theorem dX6_check_260 : decode cX6_check 260 = .ok (.iload 7, 2) := by decide +kernel
theorem dX6_check_262 : decode cX6_check 262 = .ok (.iaload, 1) := by decide +kernel
theorem dX6_check_263 : decode cX6_check 263 = .ok (.iconst 3, 1) := by decide +kernel
theorem dX6_check_264 : decode cX6_check 264 = .ok (.if_icmp .eq 14, 3) := by decide +kernel
theorem dX6_check_267 : decode cX6_check 267 = .ok (.aload_n 0, 1) := by decide +kernel
theorem dX6_check_268 : decode cX6_check 268 = .ok (.getfield 26, 3) := by decide +kernel
theorem dX6_check_271 : decode cX6_check 271 = .ok (.iload 7, 2) := by decide +kernel
theorem dX6_check_273 : decode cX6_check 273 = .ok (.iaload, 1) := by decide +kernel
theorem dX6_check_274 : decode cX6_check 274 = .ok (.iconst 4, 1) := by decide +kernel
theorem dX6_check_275 : decode cX6_check 275 = .ok (.if_icmp .ne 10, 3) := by decide +kernel
theorem dX6_check_278 : decode cX6_check 278 = .ok (.iload 6, 2) := by decide +kernel
theorem dX6_check_280 : decode cX6_check 280 = .ok (.iconst 1, 1) := by decide +kernel
theorem dX6_check_281 : decode cX6_check 281 = .ok (.iadd, 1) := by decide +kernel
theorem dX6_check_282 : decode cX6_check 282 = .ok (.goto 5, 3) := by decide +kernel
theorem dX6_check_285 : decode cX6_check 285 = .ok (.iload 6, 2) := by decide +kernel
theorem dX6_check_287 : decode cX6_check 287 = .ok (.istore 6, 2) := by decide +kernel
theorem dX6_check_289 : decode cX6_check 289 = .ok (.iinc 7 1, 3) := by decide +kernel
theorem dX6_check_292 : decode cX6_check 292 = .ok (.goto (-69), 3) := by decide +kernel
theorem dX6_check_295 : decode cX6_check 295 = .ok (.aload_n 0, 1) := by decide +kernel
theorem dX6_check_296 : decode cX6_check 296 = .ok (.getfield 110, 3) := by decide +kernel
theorem dX6_check_299 : decode cX6_check 299 = .ok (.iconst 2, 1) := by decide +kernel
theorem dX6_check_300 : decode cX6_check 300 = .ok (.if_icmp .le 43, 3) := by decide +kernel
theorem dX6_check_303 : decode cX6_check 303 = .ok (.aload_n 0, 1) := by decide +kernel
theorem dX6_check_304 : decode cX6_check 304 = .ok (.getfield 26, 3) := by decide +kernel
theorem dX6_check_307 : decode cX6_check 307 = .ok (.iconst 0, 1) := by decide +kernel
theorem dX6_check_308 : decode cX6_check 308 = .ok (.iaload, 1) := by decide +kernel
theorem dX6_check_309 : decode cX6_check 309 = .ok (.invokestatic 96, 3) := by decide +kernel
theorem dX6_check_312 : decode cX6_check 312 = .ok (.ifCond .eq 31, 3) := by decide +kernel
theorem dX6_check_315 : decode cX6_check 315 = .ok (.aload_n 0, 1) := by decide +kernel
theorem dX6_check_316 : decode cX6_check 316 = .ok (.getfield 26, 3) := by decide +kernel
theorem dX6_check_319 : decode cX6_check 319 = .ok (.iconst 1, 1) := by decide +kernel
theorem dX6_check_320 : decode cX6_check 320 = .ok (.iaload, 1) := by decide +kernel
theorem dX6_check_321 : decode cX6_check 321 = .ok (.invokestatic 96, 3) := by decide +kernel
theorem dX6_check_324 : decode cX6_check 324 = .ok (.ifCond .eq 19, 3) := by decide +kernel
theorem dX6_check_327 : decode cX6_check 327 = .ok (.aload_n 0, 1) := by decide +kernel
theorem dX6_check_328 : decode cX6_check 328 = .ok (.getfield 26, 3) := by decide +kernel
theorem dX6_check_331 : decode cX6_check 331 = .ok (.iconst 2, 1) := by decide +kernel
theorem dX6_check_332 : decode cX6_check 332 = .ok (.iaload, 1) := by decide +kernel
theorem dX6_check_333 : decode cX6_check 333 = .ok (.invokestatic 96, 3) := by decide +kernel
theorem dX6_check_336 : decode cX6_check 336 = .ok (.ifCond .eq 7, 3) := by decide +kernel
theorem dX6_check_339 : decode cX6_check 339 = .ok (.iconst 1, 1) := by decide +kernel
theorem dX6_check_340 : decode cX6_check 340 = .ok (.goto 4, 3) := by decide +kernel
theorem dX6_check_343 : decode cX6_check 343 = .ok (.iconst 0, 1) := by decide +kernel
theorem dX6_check_344 : decode cX6_check 344 = .ok (.istore 7, 2) := by decide +kernel
theorem dX6_check_346 : decode cX6_check 346 = .ok (.aload_n 0, 1) := by decide +kernel
theorem dX6_check_347 : decode cX6_check 347 = .ok (.aload_n 0, 1) := by decide +kernel
theorem dX6_check_348 : decode cX6_check 348 = .ok (.getfield 113, 3) := by decide +kernel
theorem dX6_check_351 : decode cX6_check 351 = .ok (.ifCond .ne 7, 3) := by decide +kernel
theorem dX6_check_354 : decode cX6_check 354 = .ok (.iconst 1, 1) := by decide +kernel
theorem dX6_check_355 : decode cX6_check 355 = .ok (.goto 7, 3) := by decide +kernel
theorem dX6_check_358 : decode cX6_check 358 = .ok (.aload_n 0, 1) := by decide +kernel
theorem dX6_check_359 : decode cX6_check 359 = .ok (.getfield 113, 3) := by decide +kernel
theorem dX6_check_362 : decode cX6_check 362 = .ok (.putfield 113, 3) := by decide +kernel
theorem dX6_check_365 : decode cX6_check 365 = .ok (.iload 6, 2) := by decide +kernel
theorem dX6_check_367 : decode cX6_check 367 = .ok (.iconst 2, 1) := by decide +kernel
theorem dX6_check_368 : decode cX6_check 368 = .ok (.if_icmp .le 11, 3) := by decide +kernel
theorem dX6_check_371 : decode cX6_check 371 = .ok (.aload_n 0, 1) := by decide +kernel
theorem dX6_check_372 : decode cX6_check 372 = .ok (.iconst 3, 1) := by decide +kernel
theorem dX6_check_373 : decode cX6_check 373 = .ok (.putfield 113, 3) := by decide +kernel
theorem dX6_check_376 : decode cX6_check 376 = .ok (.goto 35, 3) := by decide +kernel
theorem dX6_check_379 : decode cX6_check 379 = .ok (.iload 5, 2) := by decide +kernel
theorem dX6_check_381 : decode cX6_check 381 = .ok (.iconst 2, 1) := by decide +kernel
theorem dX6_check_382 : decode cX6_check 382 = .ok (.if_icmp .le 29, 3) := by decide +kernel
theorem dX6_check_385 : decode cX6_check 385 = .ok (.aload_n 0, 1) := by decide +kernel
theorem dX6_check_386 : decode cX6_check 386 = .ok (.getfield 113, 3) := by decide +kernel
theorem dX6_check_389 : decode cX6_check 389 = .ok (.iconst 1, 1) := by decide +kernel
theorem dX6_check_390 : decode cX6_check 390 = .ok (.if_icmp .eq 16, 3) := by decide +kernel
theorem dX6_check_393 : decode cX6_check 393 = .ok (.aload_n 0, 1) := by decide +kernel
theorem dX6_check_394 : decode cX6_check 394 = .ok (.getfield 113, 3) := by decide +kernel
theorem dX6_check_397 : decode cX6_check 397 = .ok (.iconst 3, 1) := by decide +kernel
theorem dX6_check_398 : decode cX6_check 398 = .ok (.if_icmp .ne 13, 3) := by decide +kernel
theorem dX6_check_401 : decode cX6_check 401 = .ok (.iload 7, 2) := by decide +kernel
theorem dX6_check_403 : decode cX6_check 403 = .ok (.ifCond .eq 8, 3) := by decide +kernel
theorem dX6_check_406 : decode cX6_check 406 = .ok (.aload_n 0, 1) := by decide +kernel
theorem dX6_check_407 : decode cX6_check 407 = .ok (.iconst 2, 1) := by decide +kernel
theorem dX6_check_408 : decode cX6_check 408 = .ok (.putfield 113, 3) := by decide +kernel
theorem dX6_check_411 : decode cX6_check 411 = .ok (.iload 4, 2) := by decide +kernel
theorem dX6_check_413 : decode cX6_check 413 = .ok (.ireturn, 1) := by decide +kernel
theorem dX6_state_0 : decode cX6_state 0 = .ok (.aload_n 0, 1) := by decide +kernel
theorem dX6_state_1 : decode cX6_state 1 = .ok (.iconst 0, 1) := by decide +kernel
theorem dX6_state_2 : decode cX6_state 2 = .ok (.putfield 46, 3) := by decide +kernel
theorem dX6_state_5 : decode cX6_state 5 = .ok (.aload_n 0, 1) := by decide +kernel
theorem dX6_state_6 : decode cX6_state 6 = .ok (.getfield 113, 3) := by decide +kernel
theorem dX6_state_9 : decode cX6_state 9 = .ok (.ireturn, 1) := by decide +kernel
theorem dX6_span_0 : decode cX6_span 0 = .ok (.aload_n 0, 1) := by decide +kernel
theorem dX6_span_1 : decode cX6_span 1 = .ok (.iconst 0, 1) := by decide +kernel
theorem dX6_span_2 : decode cX6_span 2 = .ok (.putfield 46, 3) := by decide +kernel
theorem dX6_span_5 : decode cX6_span 5 = .ok (.iload_n 1, 1) := by decide +kernel
theorem dX6_span_6 : decode cX6_span 6 = .ok (.ifCond .lt 11, 3) := by decide +kernel
theorem dX6_span_9 : decode cX6_span 9 = .ok (.iload_n 1, 1) := by decide +kernel
theorem dX6_span_10 : decode cX6_span 10 = .ok (.aload_n 0, 1) := by decide +kernel
theorem dX6_span_11 : decode cX6_span 11 = .ok (.getfield 110, 3) := by decide +kernel
theorem dX6_span_14 : decode cX6_span 14 = .ok (.if_icmp .lt 7, 3) := by decide +kernel
theorem dX6_span_17 : decode cX6_span 17 = .ok (.iconst (-1), 1) := by decide +kernel
theorem dX6_span_18 : decode cX6_span 18 = .ok (.goto 9, 3) := by decide +kernel
theorem dX6_span_21 : decode cX6_span 21 = .ok (.aload_n 0, 1) := by decide +kernel
theorem dX6_span_22 : decode cX6_span 22 = .ok (.getfield 26, 3) := by decide +kernel
theorem dX6_span_25 : decode cX6_span 25 = .ok (.iload_n 1, 1) := by decide +kernel
theorem dX6_span_26 : decode cX6_span 26 = .ok (.iaload, 1) := by decide +kernel
theorem dX6_span_27 : decode cX6_span 27 = .ok (.ireturn, 1) := by decide +kernel
theorem dX6_valid_0 : decode cX6_valid 0 = .ok (.aload_n 0, 1) := by decide +kernel
theorem dX6_valid_1 : decode cX6_valid 1 = .ok (.iconst 0, 1) := by decide +kernel
theorem dX6_valid_2 : decode cX6_valid 2 = .ok (.putfield 46, 3) := by decide +kernel
theorem dX6_valid_5 : decode cX6_valid 5 = .ok (.aload_n 0, 1) := by decide +kernel
theorem dX6_valid_6 : decode cX6_valid 6 = .ok (.getfield 100, 3) := by decide +kernel
theorem dX6_valid_9 : decode cX6_valid 9 = .ok (.ireturn, 1) := by decide +kernel
theorem dX6_react_0 : decode cX6_react 0 = .ok (.aload_n 0, 1) := by decide +kernel
theorem dX6_react_1 : decode cX6_react 1 = .ok (.iconst 0, 1) := by decide +kernel
theorem dX6_react_2 : decode cX6_react 2 = .ok (.putfield 46, 3) := by decide +kernel
theorem dX6_react_5 : decode cX6_react 5 = .ok (.lload_n 1, 1) := by decide +kernel
theorem dX6_react_6 : decode cX6_react 6 = .ok (.aload_n 0, 1) := by decide +kernel
theorem dX6_react_7 : decode cX6_react 7 = .ok (.getfield 103, 3) := by decide +kernel
theorem dX6_react_10 : decode cX6_react 10 = .ok (.lcmp, 1) := by decide +kernel
theorem dX6_react_11 : decode cX6_react 11 = .ok (.ifCond .ge 6, 3) := by decide +kernel
theorem dX6_react_14 : decode cX6_react 14 = .ok (.bipush (-2), 2) := by decide +kernel
theorem dX6_react_16 : decode cX6_react 16 = .ok (.ireturn, 1) := by decide +kernel
theorem dX6_react_17 : decode cX6_react 17 = .ok (.aload_n 0, 1) := by decide +kernel
theorem dX6_react_18 : decode cX6_react 18 = .ok (.lload_n 1, 1) := by decide +kernel
theorem dX6_react_19 : decode cX6_react 19 = .ok (.putfield 103, 3) := by decide +kernel
theorem dX6_react_22 : decode cX6_react 22 = .ok (.aload_n 0, 1) := by decide +kernel
theorem dX6_react_23 : decode cX6_react 23 = .ok (.getfield 113, 3) := by decide +kernel
theorem dX6_react_26 : decode cX6_react 26 = .ok (.iconst 3, 1) := by decide +kernel
theorem dX6_react_27 : decode cX6_react 27 = .ok (.if_icmp .eq 16, 3) := by decide +kernel
theorem dX6_react_30 : decode cX6_react 30 = .ok (.lload_n 1, 1) := by decide +kernel
theorem dX6_react_31 : decode cX6_react 31 = .ok (.aload_n 0, 1) := by decide +kernel
theorem dX6_react_32 : decode cX6_react 32 = .ok (.getfield 107, 3) := by decide +kernel
theorem dX6_react_35 : decode cX6_react 35 = .ok (.lsub, 1) := by decide +kernel
theorem dX6_react_36 : decode cX6_react 36 = .ok (.ldc2_w 116, 3) := by decide +kernel
theorem dX6_react_39 : decode cX6_react 39 = .ok (.lcmp, 1) := by decide +kernel
theorem dX6_react_40 : decode cX6_react 40 = .ok (.ifCond .lt 7, 3) := by decide +kernel
theorem dX6_react_43 : decode cX6_react 43 = .ok (.iconst 1, 1) := by decide +kernel
theorem dX6_react_44 : decode cX6_react 44 = .ok (.goto 4, 3) := by decide +kernel
theorem dX6_react_47 : decode cX6_react 47 = .ok (.iconst 0, 1) := by decide +kernel
theorem dX6_react_48 : decode cX6_react 48 = .ok (.ireturn, 1) := by decide +kernel
theorem dX6_told_0 : decode cX6_told 0 = .ok (.aload_n 0, 1) := by decide +kernel
theorem dX6_told_1 : decode cX6_told 1 = .ok (.iconst 0, 1) := by decide +kernel
theorem dX6_told_2 : decode cX6_told 2 = .ok (.putfield 46, 3) := by decide +kernel
theorem dX6_told_5 : decode cX6_told 5 = .ok (.iload_n 1, 1) := by decide +kernel
theorem dX6_told_6 : decode cX6_told 6 = .ok (.ifCond .lt 22, 3) := by decide +kernel
theorem dX6_told_9 : decode cX6_told 9 = .ok (.iload_n 1, 1) := by decide +kernel
theorem dX6_told_10 : decode cX6_told 10 = .ok (.bipush 6, 2) := by decide +kernel
theorem dX6_told_12 : decode cX6_told 12 = .ok (.if_icmp .ge 16, 3) := by decide +kernel
theorem dX6_told_15 : decode cX6_told 15 = .ok (.aload_n 0, 1) := by decide +kernel
theorem dX6_told_16 : decode cX6_told 16 = .ok (.getfield 29, 3) := by decide +kernel
theorem dX6_told_19 : decode cX6_told 19 = .ok (.iload_n 1, 1) := by decide +kernel
theorem dX6_told_20 : decode cX6_told 20 = .ok (.baload, 1) := by decide +kernel
theorem dX6_told_21 : decode cX6_told 21 = .ok (.ifCond .eq 7, 3) := by decide +kernel
theorem dX6_told_24 : decode cX6_told 24 = .ok (.iconst 1, 1) := by decide +kernel
theorem dX6_told_25 : decode cX6_told 25 = .ok (.goto 4, 3) := by decide +kernel
theorem dX6_told_28 : decode cX6_told 28 = .ok (.iconst 0, 1) := by decide +kernel
theorem dX6_told_29 : decode cX6_told 29 = .ok (.ireturn, 1) := by decide +kernel
theorem dX6_polynomial_0 : decode cX6_polynomial 0 = .ok (.aload_n 0, 1) := by decide +kernel
theorem dX6_polynomial_1 : decode cX6_polynomial 1 = .ok (.iconst 0, 1) := by decide +kernel
theorem dX6_polynomial_2 : decode cX6_polynomial 2 = .ok (.putfield 46, 3) := by decide +kernel
theorem dX6_polynomial_5 : decode cX6_polynomial 5 = .ok (.iload_n 1, 1) := by decide +kernel
theorem dX6_polynomial_6 : decode cX6_polynomial 6 = .ok (.bipush 8, 2) := by decide +kernel
theorem dX6_polynomial_8 : decode cX6_polynomial 8 = .ok (.if_icmp .ne 8, 3) := by decide +kernel
theorem dX6_polynomial_11 : decode cX6_polynomial 11 = .ok (.bipush 29, 2) := by decide +kernel
theorem dX6_polynomial_13 : decode cX6_polynomial 13 = .ok (.goto 27, 3) := by decide +kernel
theorem dX6_polynomial_16 : decode cX6_polynomial 16 = .ok (.iload_n 1, 1) := by decide +kernel
theorem dX6_polynomial_17 : decode cX6_polynomial 17 = .ok (.bipush 16, 2) := by decide +kernel
theorem dX6_polynomial_19 : decode cX6_polynomial 19 = .ok (.if_icmp .ne 9, 3) := by decide +kernel
theorem dX6_polynomial_22 : decode cX6_polynomial 22 = .ok (.sipush 4129, 3) := by decide +kernel
theorem dX6_polynomial_25 : decode cX6_polynomial 25 = .ok (.goto 15, 3) := by decide +kernel
theorem dX6_polynomial_28 : decode cX6_polynomial 28 = .ok (.iload_n 1, 1) := by decide +kernel
theorem dX6_polynomial_29 : decode cX6_polynomial 29 = .ok (.bipush 32, 2) := by decide +kernel
theorem dX6_polynomial_31 : decode cX6_polynomial 31 = .ok (.if_icmp .ne 8, 3) := by decide +kernel
theorem dX6_polynomial_34 : decode cX6_polynomial 34 = .ok (.ldc 118, 2) := by decide +kernel
theorem dX6_polynomial_36 : decode cX6_polynomial 36 = .ok (.goto 4, 3) := by decide +kernel
theorem dX6_polynomial_39 : decode cX6_polynomial 39 = .ok (.iconst (-1), 1) := by decide +kernel
theorem dX6_polynomial_40 : decode cX6_polynomial 40 = .ok (.ireturn, 1) := by decide +kernel
end
section
theorem dJx00060_init_a7421_0 : decode cJx00060_init_a7421 0 = .ok (.aload_n 0, 1) := by decide +kernel
theorem dJx00060_init_a7421_1 : decode cJx00060_init_a7421 1 = .ok (.aload_n 1, 1) := by decide +kernel
theorem dJx00060_init_a7421_2 : decode cJx00060_init_a7421 2 = .ok (.invokespecial 7, 3) := by decide +kernel
theorem dJx00060_init_a7421_5 : decode cJx00060_init_a7421 5 = .ok (.return_, 1) := by decide +kernel
theorem dJ9_floorMod_7cf53_0 : decode cJ9_floorMod_7cf53 0 = .ok (.iload_n 0, 1) := by decide +kernel
theorem dJ9_floorMod_7cf53_1 : decode cJ9_floorMod_7cf53 1 = .ok (.iload_n 1, 1) := by decide +kernel
theorem dJ9_floorMod_7cf53_2 : decode cJ9_floorMod_7cf53 2 = .ok (.irem, 1) := by decide +kernel
theorem dJ9_floorMod_7cf53_3 : decode cJ9_floorMod_7cf53 3 = .ok (.istore_n 2, 1) := by decide +kernel
theorem dJ9_floorMod_7cf53_4 : decode cJ9_floorMod_7cf53 4 = .ok (.iload_n 0, 1) := by decide +kernel
theorem dJ9_floorMod_7cf53_5 : decode cJ9_floorMod_7cf53 5 = .ok (.iload_n 1, 1) := by decide +kernel
theorem dJ9_floorMod_7cf53_6 : decode cJ9_floorMod_7cf53 6 = .ok (.ixor, 1) := by decide +kernel
theorem dJ9_floorMod_7cf53_7 : decode cJ9_floorMod_7cf53 7 = .ok (.ifCond .ge 11, 3) := by decide +kernel
theorem dJ9_floorMod_7cf53_10 : decode cJ9_floorMod_7cf53 10 = .ok (.iload_n 2, 1) := by decide +kernel
theorem dJ9_floorMod_7cf53_11 : decode cJ9_floorMod_7cf53 11 = .ok (.ifCond .eq 7, 3) := by decide +kernel
theorem dJ9_floorMod_7cf53_14 : decode cJ9_floorMod_7cf53 14 = .ok (.iload_n 2, 1) := by decide +kernel
theorem dJ9_floorMod_7cf53_15 : decode cJ9_floorMod_7cf53 15 = .ok (.iload_n 1, 1) := by decide +kernel
theorem dJ9_floorMod_7cf53_16 : decode cJ9_floorMod_7cf53 16 = .ok (.iadd, 1) := by decide +kernel
theorem dJ9_floorMod_7cf53_17 : decode cJ9_floorMod_7cf53 17 = .ok (.ireturn, 1) := by decide +kernel
theorem dJ9_floorMod_7cf53_18 : decode cJ9_floorMod_7cf53 18 = .ok (.iload_n 2, 1) := by decide +kernel
theorem dJ9_floorMod_7cf53_19 : decode cJ9_floorMod_7cf53 19 = .ok (.ireturn, 1) := by decide +kernel
theorem dJ9_min_7cf53_0 : decode cJ9_min_7cf53 0 = .ok (.iload_n 0, 1) := by decide +kernel
theorem dJ9_min_7cf53_1 : decode cJ9_min_7cf53 1 = .ok (.iload_n 1, 1) := by decide +kernel
theorem dJ9_min_7cf53_2 : decode cJ9_min_7cf53 2 = .ok (.if_icmp .gt 7, 3) := by decide +kernel
theorem dJ9_min_7cf53_5 : decode cJ9_min_7cf53 5 = .ok (.iload_n 0, 1) := by decide +kernel
theorem dJ9_min_7cf53_6 : decode cJ9_min_7cf53 6 = .ok (.goto 4, 3) := by decide +kernel
theorem dJ9_min_7cf53_9 : decode cJ9_min_7cf53 9 = .ok (.iload_n 1, 1) := by decide +kernel
theorem dJ9_min_7cf53_10 : decode cJ9_min_7cf53 10 = .ok (.ireturn, 1) := by decide +kernel
end
section
/-! The words that all contracts share: the array classes, the nest mates' links, a contract's start. -/
abbrev TY (cy : Nat → ClassId) : List (ClassId × FieldType) := [(cy 0, .byte), (cy 1, .int), (cy 2, .boolean), (cy 3, .long)]
def nwL : List Cond := [.fieldLinkNest RX3 67 "DataGuards$Profile" "counters" "I" "DataGuards", .fieldLinkNest RX3 56 "DataGuards$Profile" "counterOctets" "I" "DataGuards", .fieldLinkNest RX4 54 "DataGuards$Profile" "counterOctets" "I" "DataGuards", .fieldLinkNest RX4 25 "DataGuards$Octets" "length" "I" "DataGuards", .fieldLinkNest RX3 48 "DataGuards$Octets" "length" "I" "DataGuards", .fieldLinkNest RX5 50 "DataGuards$Sender" "row" "LDataGuards$Octets;" "DataGuards", .fieldLinkNest RX5 73 "DataGuards$Sender" "nextCounter" "I" "DataGuards", .fieldLinkNest RX5 91 "DataGuards$History" "goodRows" "I" "DataGuards", .fieldLinkNest RX5 77 "DataGuards$History" "joined" "I" "DataGuards", .methodLinkNest RX4 11 yX1_init "DataGuards", .methodLinkNest RX3 11 yX1_init "DataGuards", .methodLinkNest RX5 33 yX0_init "DataGuards", .methodLinkNest RX0 28 yX5_sideOf "DataGuards"]
def nw (U : State) : Prop := ∀ w ∈ nwL, va_Nw w U
theorem nwL_tab : ∀ w ∈ nwL, w.onTables = true := by decide
theorem nw_get (i : Nat) {w : Cond} (hi : nwL[i]? = some w) {U : State} (h : nw U) : va_Nw w U := h w (List.mem_of_getElem? hi)
theorem nw_use (i : Nat) {w : Cond} (hi : nwL[i]? = some w) (ho : w.onTables = true) {A : Array Value} {U : State} (h : nw U) : w.before A U = true := va_Nw.use ho (nw_get i hi h)
theorem nw_warm {s U : State} (hW : s.WarmedH U.vm) (h : nw s) : nw U := by
  intro w hw
  have hz := h w hw
  simp only [nwL, List.mem_cons, List.not_mem_nil, or_false] at hw
  rcases hw with rfl | rfl | rfl | rfl | rfl | rfl | rfl | rfl | rfl | rfl | rfl | rfl | rfl <;> first | exact va_Nw.warmF hW hz | exact va_Nw.warmM hW hz
theorem nw_same {u U : State} (h : u.vm = U.vm) (hn : nw u) : nw U := fun w hw => va_Nw.same (nwL_tab w hw) h (hn w hw)
def kk (D : va_G) (cy : Nat → ClassId) (U : State) : Prop := va_K D vwCl (TY cy) U ∧ nw U
theorem kk_warm {D : va_G} {cy : Nat → ClassId} {s U : State} (hW : s.WarmedH U.vm) (h : kk D cy s) : kk D cy U := ⟨va_K.moved hW.alike h.1, nw_warm hW h.2⟩
theorem kk_same {D : va_G} {cl : List vw_C} {tys : List (ClassId × FieldType)} {s : State} {c1 c2 : ClassId} {ty : FieldType} (hK : va_K D cl tys s) (i j : Nat) (hi : tys[i]? = some (c1, ty)) (hj : tys[j]? = some (c2, ty)) (hp : ∀ C, ty ≠ .object C) : c2 = c1 := by
  have h1 := (hK.2 i _ hi).2
  have h2 := (hK.2 j _ hj).2
  cases ty <;> first | exact absurd rfl (hp _) | exact Option.some.inj (h2.symm.trans h1)
def pre1 (D : va_G) (cy : Nat → ClassId) (av : List Value) (ws : va_W) (sz : Nat) : Array Value → State → Prop := va_Pc av (fun U => U.heap.size = sz ∧ va_P D vwCl ws U.heap ∧ kk D cy U ∧ va_D (fun _ => True) ws)
theorem pre1_blind {D : va_G} {cy : Nat → ClassId} {av : List Value} {ws : va_W} {sz : Nat} : FrameBlind (pre1 D cy av ws sz) := by
  intro a U g mk q
  obtain ⟨q0, q1, qP, qK, qD⟩ := q
  exact ⟨q0, q1, qP, ⟨va_K.moved (u := U) (U := U.calling g mk a) (Vm.Alike.refl U.vm) qK.1, nw_same (u := U) (U := U.calling g mk a) rfl qK.2⟩, qD⟩
theorem pv_S {s : State} {H : Heap} {D : va_G} {cy : Nat → ClassId} {ws : va_W} {sz : Nat} {As : List Value} {A : Nat → Prop} (hk : kk D cy s) (hP : va_P D vwCl ws H) (hD : va_D A ws) (hz : H.size = sz) : PreS s H (pre1 D cy As ws sz) As :=
  ⟨pre1_blind, fun U hU hW => ⟨rfl, by rw [hU]; exact hz, by rw [hU]; exact hP, kk_warm hW hk, hD.weaken (fun _ _ _ _ => trivial)⟩⟩
theorem pv_V {s : State} {H : Heap} {D : va_G} {cy : Nat → ClassId} {ws : va_W} {sz b ci : Nat} {As : List Value} {A : Nat → Prop} {fs : List Value} {q : vw_C} (hk : kk D cy s) (hP : va_P D vwCl ws H) (hD : va_D A ws) (hz : H.size = sz) (hc : vwCl[ci]? = some q) (he : ws[0]? = some (b, .inr (ci, fs))) : PreV s H q.1 b (pre1 D cy (.ref b :: As) ws sz) As :=
  ⟨pre1_blind, va_recv hk.1 hP hc he, fun U hU hW => ⟨rfl, by rw [hU]; exact hz, by rw [hU]; exact hP, kk_warm hW hk, hD.weaken (fun _ _ _ _ => trivial)⟩⟩
end
section
/-! Octets: what its methods answer, in words of numbers. -/
def oc_has (i : Int32) (n : Nat) : Int32 := if 0 ≤ i.toInt ∧ i.toInt < (n : Int) then 1 else 0
def oc_get (f : Nat → Int32) (n : Nat) (i : Int32) : Int32 := if 0 ≤ i.toInt ∧ i.toInt < (n : Int) then f i.toNatClampNeg &&& 255 else 0
def oc_flip (f : Nat → Int32) (n : Nat) (i mask : Int32) : Nat → Int32 := if 0 ≤ i.toInt ∧ i.toInt < (n : Int) then upd f i.toNatClampNeg (f i.toNatClampNeg ^^^ mask).toInt8.toInt32 else f
def oc_add (f : Nat → Int32) (n : Nat) (x r : Int32) (f2 : Nat → Int32) (n2 : Nat) : Prop := (n < 70 ∧ r = 1 ∧ f2 = upd f n x.toInt8.toInt32 ∧ n2 = n + 1) ∨ (¬ n < 70 ∧ r = 0 ∧ f2 = f ∧ n2 = n)
def oc_num (f : Nat → Int32) (n : Nat) (p : Int32) : Nat → Int32
  | 0 => 0
  | k + 1 => (oc_num f n p k <<< ((8 : Int32) &&& 31)) ||| oc_get f n (p + nI k)
def oc_dig (x : Int32) (q : Nat) : Int32 := (x.toUInt32 >>> ((nI (8 * q)).toUInt32 &&& Int32.toUInt32 31)).toInt32
theorem i32_70 : (70 : Int32) = nI 70 := by decide
theorem oc_toInt {n : Nat} (hn : n ≤ 70) : (nI n).toInt = (n : Int) := nI_toInt (by omega)
theorem oc_has_lo {i : Int32} {n : Nat} (h : i < 0) : 0 = oc_has i n := by
  have h2 : i.toInt < 0 := by simpa [Int32.lt_iff_toInt_lt] using h
  unfold oc_has; rw [if_neg (by omega)]
theorem oc_has_hi {i : Int32} {n : Nat} (hn : n ≤ 70) (h : nI n ≤ i) : 0 = oc_has i n := by
  rw [Int32.le_iff_toInt_le, oc_toInt hn] at h
  unfold oc_has; rw [if_neg (by omega)]
theorem oc_has_70 {i : Int32} {n : Nat} (hn : n ≤ 70) (h : 70 ≤ i) : 0 = oc_has i n := by
  rw [i32_70, Int32.le_iff_toInt_le, nI_toInt (by decide)] at h
  unfold oc_has; rw [if_neg (by omega)]
theorem oc_has_in {i : Int32} {n : Nat} (hn : n ≤ 70) (h0 : ¬ i < 0) (h : ¬ nI n ≤ i) : 1 = oc_has i n := by
  have h2 : ¬ i.toInt < 0 := by simpa [Int32.lt_iff_toInt_lt] using h0
  rw [Int32.le_iff_toInt_le, oc_toInt hn] at h
  unfold oc_has; rw [if_pos (by omega)]
theorem oc_has_no {i : Int32} {n : Nat} (h : oc_has i n = 0) : ¬ (0 ≤ i.toInt ∧ i.toInt < (n : Int)) := by
  intro q
  unfold oc_has at h
  rw [if_pos q] at h
  exact absurd h (by decide)
theorem oc_has_yes {i : Int32} {n : Nat} (h : ¬ oc_has i n = 0) : 0 ≤ i.toInt ∧ i.toInt < (n : Int) := by
  refine Classical.byContradiction fun q => h ?_
  unfold oc_has
  rw [if_neg q]
theorem oc_get_no {f : Nat → Int32} {i : Int32} {n : Nat} (h : oc_has i n = 0) : 0 = oc_get f n i := by
  unfold oc_get; rw [if_neg (oc_has_no h)]
theorem oc_get_yes {f : Nat → Int32} {i : Int32} {n : Nat} (h : ¬ oc_has i n = 0) : f i.toNatClampNeg &&& 255 = oc_get f n i := by
  unfold oc_get; rw [if_pos (oc_has_yes h)]
theorem oc_flip_no {f : Nat → Int32} {i k : Int32} {n : Nat} (h : oc_has i n = 0) : f = oc_flip f n i k := by
  unfold oc_flip; rw [if_neg (oc_has_no h)]
theorem oc_flip_yes {f : Nat → Int32} {i k : Int32} {n : Nat} (h : ¬ oc_has i n = 0) : upd f i.toNatClampNeg (f i.toNatClampNeg ^^^ k).toInt8.toInt32 = oc_flip f n i k := by
  unfold oc_flip; rw [if_pos (oc_has_yes h)]
theorem oc_vp {i : Int32} {n : Nat} (hn : n ≤ 70) (h : ¬ oc_has i n = 0) : vp_in i 70 := by
  have := oc_has_yes h
  exact vp_in_iff.mpr ⟨this.1, by omega⟩
theorem oc_add_lt {f f2 : Nat → Int32} {n n2 : Nat} {x r : Int32} (h : oc_add f n x r f2 n2) (hn : n < 70) : r = 1 ∧ f2 = upd f n x.toInt8.toInt32 ∧ n2 = n + 1 := by
  rcases h with h | h
  · exact h.2
  · exact absurd hn h.1
theorem oc_ltN {a b : Nat} (ha : a ≤ 200) (hb : b ≤ 200) : nI a ≤ nI b ↔ a ≤ b := nI_leI (by omega) (by omega)
theorem oc_pred_neg {q : Nat} (hq : q ≤ 200) (h : nI q - 1 < 0) : q = 0 := by
  rcases q with _ | q
  · rfl
  · rw [nI_pred] at h
    exact absurd h (nI_pos (by omega))
theorem oc_pred_ok {q : Nat} (h : ¬ nI q - 1 < 0) : ∃ z, q = z + 1 := by
  rcases q with _ | q
  · exact absurd (by decide) h
  · exact ⟨q, rfl⟩
theorem oc_8 (q : Nat) : 8 * (nI (q + 1) - 1) = nI (8 * q) := by
  rw [nI_pred]; exact pk_mul 8 q
theorem oc_pp (q : Nat) : nI (q + 1) - 1 + Int32.ofInt (-1) = nI q - 1 := by
  rw [nI_pred, Int32.sub_eq_add_neg]; rfl
end
section
theorem iw_X1_has_X1 : ∀ w ∈ wsX10, w ∈ wsX1_has := by decide +kernel
theorem lk_X1_has_f15 : (.fieldLink RX1 15 "DataGuards$Octets" "length" "I" : Cond) ∈ wsX1_has := by decide +kernel
theorem lk_X1_has_f9 : (.fieldLink RX1 9 "DataGuards$Octets" "places" "[B" : Cond) ∈ wsX1_has := by decide +kernel
set_option maxHeartbeats 4000000 in
set_option maxRecDepth 100000 in
/-- Octets.has(i) -/
theorem c_X1_has (l : Launch) (D : va_G) (cy : Nat → ClassId) (sz : Nat) (h0 : Nat) (h1 : Nat) (f : Nat → Int32) (n : Nat) (i : Int32) (hn : n ≤ 70) : Met l yX1_has wsX1_has ({ frames := 0, cells := 0, slots := 0, locals := 0 } : Room) (pre1 D cy [.ref h0, .int i] [(h0, .inr (2, [.ref h1, .int (nI n)])), (h1, .inl (cy 0, 70, .inl f))] sz) (va_Qi (fun (r : Int32) (u : Unit) => r = oc_has i n) (fun u t => va_P D vwCl [(h0, .inr (2, [.ref h1, .int (nI n)])), (h1, .inl (cy 0, 70, .inl f))] t.heap ∧ va_D (va_A [(h0, .inr (2, [.ref h1, .int (nI n)])), (h1, .inl (cy 0, 70, .inl f))] sz) [(h0, .inr (2, [.ref h1, .int (nI n)])), (h1, .inl (cy 0, 70, .inl f))]) (va_A [(h0, .inr (2, [.ref h1, .int (nI n)])), (h1, .inl (cy 0, 70, .inl f))] sz)) 0 0 (va_A [(h0, .inr (2, [.ref h1, .int (nI n)])), (h1, .inl (cy 0, 70, .inl f))] sz) := by
  refine Met.ofW (cc := cX1_has) (maxL := 2) (ret := (some .boolean)) (by decide) rfl ?_
  intro p e s m args below meth c s₁ B hml hv
  obtain ⟨rfl, hsz, hP, hkk, hD0⟩ := hv
  have hx := B.exec
  have hb := B.bytes
  have hr := B.returns
  have hts := atoms_spec (ws := wsX1_has) B.pre
  have hown : s.vm.findClass RX1 = some m.cls := findClass_of_methodNamed B.named
  have hlocks := B.notSynchronized
  have hin : meth.name = _ := (name_of_methodNamed B.named B.method).1
  have hK := hkk.1
  subst hsz
  have hD := hD0.self (sz := s.heap.size)
  generalize hAe : va_A [(h0, .inr (2, [.ref h1, .int (nI n)])), (h1, .inl (cy 0, 70, .inl f))] s.heap.size = A at hD ⊢
  have hA : ∀ q : Nat, s.heap.size ≤ q → A q := fun q h => by rw [← hAe]; exact Or.inr h
  have hS : va_S A s.heap s.heap [] := va_S.rf
  have hP : va_P D vwCl [(h0, .inr (2, [.ref h1, .int (nI n)])), (h1, .inl (cy 0, 70, .inl f))] s.heap := hP
  have hl := lv_entry ([.ref h0, .int i]) (n := 2) (Nat.le_of_ble_eq_true rfl)
  rw [lg_entry_eq]
  generalize (lg_sl ([.ref h0, .int i]) ++ List.replicate (2 - (lg_sl ([.ref h0, .int i])).length) Slot.unset).toArray = ls at hl ⊢
  have hl : lv_has ls 2 [(0, .ref h0), (1, .int i)] := hl
  refine lv_iload_n hx hb dX1_has_0 rfl (lv_at hl 1 rfl) ?_
  refine lv_if_lt (tgt := 25) hx hb dX1_has_1 (by decide) (fun c_1 => ?_) (fun c_1 => ?_)
  · refine lv_iconst (v := 0) hx hb dX1_has_25 (by decide) ?_
    have hP9 := hP.sub (ws' := [(h0, .inr (2, [.ref h1, .int (nI n)])), (h1, .inl (cy 0, 70, .inl f))]) [0, 1] rfl
    have hD9 := hD.sub (ws' := [(h0, .inr (2, [.ref h1, .int (nI n)])), (h1, .inl (cy 0, 70, .inl f))]) [0, 1] (by decide) rfl
    exact W.zret (v := 0) hx hb hr rfl (fun t ht hW => ⟨⟨0, (), rfl, oc_has_lo c_1, by rw [ht]; exact hP9, hD9⟩, hS.F ht⟩) hS.2.2 dX1_has_26
  · refine lv_iload_n hx hb dX1_has_4 rfl (lv_at hl 1 rfl) ?_
    refine lv_aload_n hx hb dX1_has_5 rfl (lv_at hl 0 rfl) ?_
    refine va_get (D := D) (ci := 2) (v := .int (nI n)) (C := RX1) (T := TX1) (N := 2) hx hb hts iw_X1_has_X1 hown hK hP 0 rfl rfl 1 (by decide) (hts _ lk_X1_has_f15) (fun _ h9 => h9) rfl dX1_has_6 ?_
    refine lv_icmp_ge (tgt := 25) hx hb dX1_has_9 (by decide) (fun c_9 => ?_) (fun c_9 => ?_)
    · refine lv_iconst (v := 0) hx hb dX1_has_25 (by decide) ?_
      have hP9 := hP.sub (ws' := [(h0, .inr (2, [.ref h1, .int (nI n)])), (h1, .inl (cy 0, 70, .inl f))]) [0, 1] rfl
      have hD9 := hD.sub (ws' := [(h0, .inr (2, [.ref h1, .int (nI n)])), (h1, .inl (cy 0, 70, .inl f))]) [0, 1] (by decide) rfl
      exact W.zret (v := 0) hx hb hr rfl (fun t ht hW => ⟨⟨0, (), rfl, oc_has_hi hn c_9, by rw [ht]; exact hP9, hD9⟩, hS.F ht⟩) hS.2.2 dX1_has_26
    · refine lv_iload_n hx hb dX1_has_12 rfl (lv_at hl 1 rfl) ?_
      refine lv_aload_n hx hb dX1_has_13 rfl (lv_at hl 0 rfl) ?_
      refine va_get (D := D) (ci := 2) (v := .ref h1) (C := RX1) (T := TX1) (N := 2) hx hb hts iw_X1_has_X1 hown hK hP 0 rfl rfl 0 (by decide) (hts _ lk_X1_has_f9) (fun _ h9 => h9) rfl dX1_has_14 ?_
      refine va_alen hx hb hK hP 1 0 rfl rfl (v := 70) rfl dX1_has_17 ?_
      refine lv_icmp_ge (tgt := 25) hx hb dX1_has_18 (by decide) (fun c_18 => ?_) (fun c_18 => ?_)
      · refine lv_iconst (v := 0) hx hb dX1_has_25 (by decide) ?_
        have hP9 := hP.sub (ws' := [(h0, .inr (2, [.ref h1, .int (nI n)])), (h1, .inl (cy 0, 70, .inl f))]) [0, 1] rfl
        have hD9 := hD.sub (ws' := [(h0, .inr (2, [.ref h1, .int (nI n)])), (h1, .inl (cy 0, 70, .inl f))]) [0, 1] (by decide) rfl
        exact W.zret (v := 0) hx hb hr rfl (fun t ht hW => ⟨⟨0, (), rfl, oc_has_70 hn c_18, by rw [ht]; exact hP9, hD9⟩, hS.F ht⟩) hS.2.2 dX1_has_26
      · refine lv_iconst (v := 1) hx hb dX1_has_21 (by decide) ?_
        refine lv_goto (tgt := 26) hx hb dX1_has_22 (by decide) ?_
        have hP9 := hP.sub (ws' := [(h0, .inr (2, [.ref h1, .int (nI n)])), (h1, .inl (cy 0, 70, .inl f))]) [0, 1] rfl
        have hD9 := hD.sub (ws' := [(h0, .inr (2, [.ref h1, .int (nI n)])), (h1, .inl (cy 0, 70, .inl f))]) [0, 1] (by decide) rfl
        exact W.zret (v := 1) hx hb hr rfl (fun t ht hW => ⟨⟨1, (), rfl, oc_has_in hn c_1 c_9, by rw [ht]; exact hP9, hD9⟩, hS.F ht⟩) hS.2.2 dX1_has_26

theorem iw_X1_get_X1 : ∀ w ∈ wsX10, w ∈ wsX1_get := by decide +kernel
theorem lk_X1_get_f9 : (.fieldLink RX1 9 "DataGuards$Octets" "places" "[B" : Cond) ∈ wsX1_get := by decide +kernel
set_option maxHeartbeats 4000000 in
set_option maxRecDepth 100000 in
/-- Octets.get(i) -/
theorem c_X1_get (l : Launch) (D : va_G) (cy : Nat → ClassId) (sz : Nat) (h0 : Nat) (h1 : Nat) (f : Nat → Int32) (n : Nat) (i : Int32) (hn : n ≤ 70) : Met l yX1_get wsX1_get ({ frames := 1, cells := 0, slots := 0, locals := 21 } : Room) (pre1 D cy [.ref h0, .int i] [(h0, .inr (2, [.ref h1, .int (nI n)])), (h1, .inl (cy 0, 70, .inl f))] sz) (va_Qi (fun (r : Int32) (u : Unit) => r = oc_get f n i) (fun u t => va_P D vwCl [(h0, .inr (2, [.ref h1, .int (nI n)])), (h1, .inl (cy 0, 70, .inl f))] t.heap ∧ va_D (va_A [(h0, .inr (2, [.ref h1, .int (nI n)])), (h1, .inl (cy 0, 70, .inl f))] sz) [(h0, .inr (2, [.ref h1, .int (nI n)])), (h1, .inl (cy 0, 70, .inl f))]) (va_A [(h0, .inr (2, [.ref h1, .int (nI n)])), (h1, .inl (cy 0, 70, .inl f))] sz)) 0 0 (va_A [(h0, .inr (2, [.ref h1, .int (nI n)])), (h1, .inl (cy 0, 70, .inl f))] sz) := by
  refine Met.ofW (cc := cX1_get) (maxL := 2) (ret := (some .int)) (by decide) rfl ?_
  intro p e s m args below meth c s₁ B hml hv
  obtain ⟨rfl, hsz, hP, hkk, hD0⟩ := hv
  have hx := B.exec
  have hb := B.bytes
  have hr := B.returns
  have hts := atoms_spec (ws := wsX1_get) B.pre
  have hown : s.vm.findClass RX1 = some m.cls := findClass_of_methodNamed B.named
  have hlocks := B.notSynchronized
  have hin : meth.name = _ := (name_of_methodNamed B.named B.method).1
  have hK := hkk.1
  subst hsz
  have hD := hD0.self (sz := s.heap.size)
  generalize hAe : va_A [(h0, .inr (2, [.ref h1, .int (nI n)])), (h1, .inl (cy 0, 70, .inl f))] s.heap.size = A at hD ⊢
  have hA : ∀ q : Nat, s.heap.size ≤ q → A q := fun q h => by rw [← hAe]; exact Or.inr h
  have hS : va_S A s.heap s.heap [] := va_S.rf
  have hP : va_P D vwCl [(h0, .inr (2, [.ref h1, .int (nI n)])), (h1, .inl (cy 0, 70, .inl f))] s.heap := hP
  have hl := lv_entry ([.ref h0, .int i]) (n := 2) (Nat.le_of_ble_eq_true rfl)
  rw [lg_entry_eq]
  generalize (lg_sl ([.ref h0, .int i]) ++ List.replicate (2 - (lg_sl ([.ref h0, .int i])).length) Slot.unset).toArray = ls at hl ⊢
  have hl : lv_has ls 2 [(0, .ref h0), (1, .int i)] := hl
  refine lv_aload_n hx hb dX1_get_0 rfl (lv_at hl 0 rfl) ?_
  refine lv_iload_n hx hb dX1_get_1 rfl (lv_at hl 1 rfl) ?_
  have hPc := hP.sub (ws' := [(h0, .inr (2, [.ref h1, .int (nI n)])), (h1, .inl (cy 0, 70, .inl f))]) [0, 1] rfl
  have hDc := hD.sub (ws' := [(h0, .inr (2, [.ref h1, .int (nI n)])), (h1, .inl (cy 0, 70, .inl f))]) [0, 1] (by decide) rfl
  have hFc := va_free (wc := [(h0, .inr (2, [.ref h1, .int (nI n)])), (h1, .inl (cy 0, 70, .inl f))]) hD hS hA [0, 1] rfl
  refine va_calli (va_runV (As := [.int i]) (rest := []) ⟨hx, hb, hml, hown, hts⟩ (c_X1_has l D cy s.heap.size h0 h1 f n i (by first | assumption | omega)) (cwV 1 hts gX1_get_X1_has rfl rfl rfl (by decide +kernel) ⟨Nat.le_of_ble_eq_true rfl, Nat.le_of_ble_eq_true rfl⟩) (pv_V (ci := 2) (q := (RX1, TX1, 2)) hkk hPc hDc rfl rfl rfl) rfl rfl hl.1 rfl (lv_room (Nat.le_of_ble_eq_true rfl)) dX1_get_2 ⟨Nat.le_of_ble_eq_true rfl, Nat.le_of_ble_eq_true rfl⟩) hS (fun q _ h => hFc q h) hFc (fun r_2 u t H1 locs ht hvm hw hB hz1 hk1 hS => ?_)
  obtain ⟨hP1, hD1⟩ := hB
  rw [ht] at hP1
  try dsimp only at hw hP1 hD1
  obtain ⟨hP, hD⟩ := va_join (wr := []) (w1 := [(h0, .inr (2, [.ref h1, .int (nI n)])), (h1, .inl (cy 0, 70, .inl f))]) hP hD [0, 1] [] rfl rfl (by decide) (by decide) hk1 hFc hP1 hD1
  clear hPc hDc hFc hP1 hD1 hz1 hk1
  generalize H1 = H at hP hS ⊢
  have hP : va_P D vwCl [(h0, .inr (2, [.ref h1, .int (nI n)])), (h1, .inl (cy 0, 70, .inl f))] H := hP
  have hD : va_D A [(h0, .inr (2, [.ref h1, .int (nI n)])), (h1, .inl (cy 0, 70, .inl f))] := hD
  obtain rfl := hw
  refine lv_if_eq (tgt := 21) hx hb dX1_get_5 (by decide) (fun c_5 => ?_) (fun c_5 => ?_)
  · refine lv_iconst (v := 0) hx hb dX1_get_21 (by decide) ?_
    have hP9 := hP.sub (ws' := [(h0, .inr (2, [.ref h1, .int (nI n)])), (h1, .inl (cy 0, 70, .inl f))]) [0, 1] rfl
    have hD9 := hD.sub (ws' := [(h0, .inr (2, [.ref h1, .int (nI n)])), (h1, .inl (cy 0, 70, .inl f))]) [0, 1] (by decide) rfl
    exact W.iret (v := 0) hx hb hr (fun t ht hW => ⟨⟨0, (), rfl, oc_get_no c_5, by rw [ht]; exact hP9, hD9⟩, hS.F ht⟩) hS.2.2 dX1_get_22
  · refine lv_aload_n hx hb dX1_get_8 rfl (lv_at hl 0 rfl) ?_
    refine va_get (D := D) (ci := 2) (v := .ref h1) (C := RX1) (T := TX1) (N := 2) hx hb hts iw_X1_get_X1 hown hK hP 0 rfl rfl 0 (by decide) (hts _ lk_X1_get_f9) (fun _ h9 => h9) rfl dX1_get_9 ?_
    refine lv_iload_n hx hb dX1_get_12 rfl (lv_at hl 1 rfl) ?_
    refine va_bald hx hb hK hP 1 0 rfl rfl (oc_vp hn c_5) dX1_get_13 ?_
    refine lv_sipush (v := 255) hx hb dX1_get_14 (by decide) ?_
    refine lv_iand hx hb dX1_get_17 ?_
    refine lv_goto (tgt := 22) hx hb dX1_get_18 (by decide) ?_
    have hP9 := hP.sub (ws' := [(h0, .inr (2, [.ref h1, .int (nI n)])), (h1, .inl (cy 0, 70, .inl f))]) [0, 1] rfl
    have hD9 := hD.sub (ws' := [(h0, .inr (2, [.ref h1, .int (nI n)])), (h1, .inl (cy 0, 70, .inl f))]) [0, 1] (by decide) rfl
    exact W.iret (v := (f i.toNatClampNeg) &&& 255) hx hb hr (fun t ht hW => ⟨⟨(f i.toNatClampNeg) &&& 255, (), rfl, oc_get_yes c_5, by rw [ht]; exact hP9, hD9⟩, hS.F ht⟩) hS.2.2 dX1_get_22

theorem iw_X1_add_X1 : ∀ w ∈ wsX10, w ∈ wsX1_add := by decide +kernel
theorem lk_X1_add_f15 : (.fieldLink RX1 15 "DataGuards$Octets" "length" "I" : Cond) ∈ wsX1_add := by decide +kernel
theorem lk_X1_add_f9 : (.fieldLink RX1 9 "DataGuards$Octets" "places" "[B" : Cond) ∈ wsX1_add := by decide +kernel
set_option maxHeartbeats 4000000 in
set_option maxRecDepth 100000 in
/-- Octets.add(x) -/
theorem c_X1_add (l : Launch) (D : va_G) (cy : Nat → ClassId) (sz : Nat) (h0 : Nat) (h1 : Nat) (f : Nat → Int32) (n : Nat) (x : Int32) (hn : n ≤ 70) : Met l yX1_add wsX1_add ({ frames := 0, cells := 0, slots := 0, locals := 0 } : Room) (pre1 D cy [.ref h0, .int x] [(h0, .inr (2, [.ref h1, .int (nI n)])), (h1, .inl (cy 0, 70, .inl f))] sz) (va_Qi (fun (r : Int32) (u : (Nat → Int32) × (Nat)) => (oc_add f n x r u.1 u.2)) (fun u t => va_P D vwCl [(h0, .inr (2, [.ref h1, .int (nI u.2)])), (h1, .inl (cy 0, 70, .inl u.1))] t.heap ∧ va_D (va_A [(h0, .inr (2, [.ref h1, .int (nI n)])), (h1, .inl (cy 0, 70, .inl f))] sz) [(h0, .inr (2, [.ref h1, .int (nI u.2)])), (h1, .inl (cy 0, 70, .inl u.1))]) (va_A [(h0, .inr (2, [.ref h1, .int (nI n)])), (h1, .inl (cy 0, 70, .inl f))] sz)) 0 0 (va_A [(h0, .inr (2, [.ref h1, .int (nI n)])), (h1, .inl (cy 0, 70, .inl f))] sz) := by
  refine Met.ofW (cc := cX1_add) (maxL := 2) (ret := (some .boolean)) (by decide) rfl ?_
  intro p e s m args below meth c s₁ B hml hv
  obtain ⟨rfl, hsz, hP, hkk, hD0⟩ := hv
  have hx := B.exec
  have hb := B.bytes
  have hr := B.returns
  have hts := atoms_spec (ws := wsX1_add) B.pre
  have hown : s.vm.findClass RX1 = some m.cls := findClass_of_methodNamed B.named
  have hlocks := B.notSynchronized
  have hin : meth.name = _ := (name_of_methodNamed B.named B.method).1
  have hK := hkk.1
  subst hsz
  have hD := hD0.self (sz := s.heap.size)
  generalize hAe : va_A [(h0, .inr (2, [.ref h1, .int (nI n)])), (h1, .inl (cy 0, 70, .inl f))] s.heap.size = A at hD ⊢
  have hA : ∀ q : Nat, s.heap.size ≤ q → A q := fun q h => by rw [← hAe]; exact Or.inr h
  have hS : va_S A s.heap s.heap [] := va_S.rf
  have hP : va_P D vwCl [(h0, .inr (2, [.ref h1, .int (nI n)])), (h1, .inl (cy 0, 70, .inl f))] s.heap := hP
  have hl := lv_entry ([.ref h0, .int x]) (n := 2) (Nat.le_of_ble_eq_true rfl)
  rw [lg_entry_eq]
  generalize (lg_sl ([.ref h0, .int x]) ++ List.replicate (2 - (lg_sl ([.ref h0, .int x])).length) Slot.unset).toArray = ls at hl ⊢
  have hl : lv_has ls 2 [(0, .ref h0), (1, .int x)] := hl
  refine lv_aload_n hx hb dX1_add_0 rfl (lv_at hl 0 rfl) ?_
  refine va_get (D := D) (ci := 2) (v := .int (nI n)) (C := RX1) (T := TX1) (N := 2) hx hb hts iw_X1_add_X1 hown hK hP 0 rfl rfl 1 (by decide) (hts _ lk_X1_add_f15) (fun _ h9 => h9) rfl dX1_add_1 ?_
  refine lv_if_lt (tgt := 19) hx hb dX1_add_4 (by decide) (fun c_4 => ?_) (fun c_4 => ?_)
  · exact absurd c_4 (nI_pos (by omega))
  · refine lv_aload_n hx hb dX1_add_7 rfl (lv_at hl 0 rfl) ?_
    refine va_get (D := D) (ci := 2) (v := .int (nI n)) (C := RX1) (T := TX1) (N := 2) hx hb hts iw_X1_add_X1 hown hK hP 0 rfl rfl 1 (by decide) (hts _ lk_X1_add_f15) (fun _ h9 => h9) rfl dX1_add_8 ?_
    refine lv_aload_n hx hb dX1_add_11 rfl (lv_at hl 0 rfl) ?_
    refine va_get (D := D) (ci := 2) (v := .ref h1) (C := RX1) (T := TX1) (N := 2) hx hb hts iw_X1_add_X1 hown hK hP 0 rfl rfl 0 (by decide) (hts _ lk_X1_add_f9) (fun _ h9 => h9) rfl dX1_add_12 ?_
    refine va_alen hx hb hK hP 1 0 rfl rfl (v := 70) rfl dX1_add_15 ?_
    refine lv_icmp_lt (tgt := 21) hx hb dX1_add_16 (by decide) (fun c_16 => ?_) (fun c_16 => ?_)
    · have hn7 : n < 70 := by rw [i32_70] at c_16; exact (nI_ltI (by omega) (by decide)).mp c_16
      refine lv_aload_n hx hb dX1_add_21 rfl (lv_at hl 0 rfl) ?_
      refine va_get (D := D) (ci := 2) (v := .ref h1) (C := RX1) (T := TX1) (N := 2) hx hb hts iw_X1_add_X1 hown hK hP 0 rfl rfl 0 (by decide) (hts _ lk_X1_add_f9) (fun _ h9 => h9) rfl dX1_add_22 ?_
      refine lv_aload_n hx hb dX1_add_25 rfl (lv_at hl 0 rfl) ?_
      refine va_get (D := D) (ci := 2) (v := .int (nI n)) (C := RX1) (T := TX1) (N := 2) hx hb hts iw_X1_add_X1 hown hK hP 0 rfl rfl 1 (by decide) (hts _ lk_X1_add_f15) (fun _ h9 => h9) rfl dX1_add_26 ?_
      refine lv_iload_n hx hb dX1_add_29 rfl (lv_at hl 1 rfl) ?_
      refine lv_i2b (v := x.toInt8.toInt32) hx hb dX1_add_30 rfl ?_
      refine va_bast hx hb hK hP hD hS 1 0 rfl rfl (vp_in_nI hn7 (by decide)) dX1_add_31 (fun H locs hP hD hS => ?_)
      have hP : va_P D vwCl [(h0, .inr (2, [.ref h1, .int (nI n)])), (h1, .inl (cy 0, 70, .inl (upd f (nI n).toNatClampNeg (vp_nar .byte x.toInt8.toInt32))))] H := hP
      have hD : va_D A [(h0, .inr (2, [.ref h1, .int (nI n)])), (h1, .inl (cy 0, 70, .inl (upd f (nI n).toNatClampNeg (vp_nar .byte x.toInt8.toInt32))))] := hD
      have eA_31 : upd f (nI n).toNatClampNeg (vp_nar .byte x.toInt8.toInt32) = upd f n x.toInt8.toInt32 := by rw [nI_clamp (by omega), pk_vb]
      rw [eA_31] at hP hD
      refine lv_aload_n hx hb dX1_add_32 rfl (lv_at hl 0 rfl) ?_
      refine lv_dup hx hb dX1_add_33 rfl ?_
      refine va_get (D := D) (ci := 2) (v := .int (nI n)) (C := RX1) (T := TX1) (N := 2) hx hb hts iw_X1_add_X1 hown hK hP 0 rfl rfl 1 (by decide) (hts _ lk_X1_add_f15) (fun _ h9 => h9) rfl dX1_add_34 ?_
      refine lv_iconst (v := 1) hx hb dX1_add_37 (by decide) ?_
      refine lv_iadd hx hb dX1_add_38 ?_
      refine lv_topi (fun x_38 ex_38 => ?_)
      obtain rfl : x_38 = nI (n + 1) := by rw [ex_38]; exact nI_1 n
      refine va_put (D := D) (ci := 2) (v := .int (nI (n + 1))) (ty := .int) (C := RX1) (T := TX1) (N := 2) hx hb hts iw_X1_add_X1 tyX1 tyX1_ok nmX1 hown hK hP hD hS 0 rfl rfl 1 (by decide) (hts _ lk_X1_add_f15) (fun _ h9 => h9) rfl (by decide +kernel) rfl rfl (Nat.le_of_ble_eq_true rfl) dX1_add_39 (fun H locs hP hD hS => ?_)
      have hP : va_P D vwCl [(h0, .inr (2, [.ref h1, .int (nI (n + 1))])), (h1, .inl (cy 0, 70, .inl (upd f n x.toInt8.toInt32)))] H := hP
      have hD : va_D A [(h0, .inr (2, [.ref h1, .int (nI (n + 1))])), (h1, .inl (cy 0, 70, .inl (upd f n x.toInt8.toInt32)))] := hD
      refine lv_iconst (v := 1) hx hb dX1_add_42 (by decide) ?_
      have hP9 := hP.sub (ws' := [(h0, .inr (2, [.ref h1, .int (nI (n + 1))])), (h1, .inl (cy 0, 70, .inl (upd f n x.toInt8.toInt32)))]) [0, 1] rfl
      have hD9 := hD.sub (ws' := [(h0, .inr (2, [.ref h1, .int (nI (n + 1))])), (h1, .inl (cy 0, 70, .inl (upd f n x.toInt8.toInt32)))]) [0, 1] (by decide) rfl
      exact W.zret (v := 1) hx hb hr rfl (fun t ht hW => ⟨⟨1, (upd f n x.toInt8.toInt32, n + 1), rfl, Or.inl ⟨hn7, rfl, rfl, rfl⟩, by rw [ht]; exact hP9, hD9⟩, hS.F ht⟩) hS.2.2 dX1_add_43
    · have hn7 : ¬ n < 70 := fun q => c_16 (by rw [i32_70]; exact nI_lt q (by decide))
      refine lv_iconst (v := 0) hx hb dX1_add_19 (by decide) ?_
      have hP9 := hP.sub (ws' := [(h0, .inr (2, [.ref h1, .int (nI n)])), (h1, .inl (cy 0, 70, .inl f))]) [0, 1] rfl
      have hD9 := hD.sub (ws' := [(h0, .inr (2, [.ref h1, .int (nI n)])), (h1, .inl (cy 0, 70, .inl f))]) [0, 1] (by decide) rfl
      exact W.zret (v := 0) hx hb hr rfl (fun t ht hW => ⟨⟨0, (f, n), rfl, Or.inr ⟨hn7, rfl, rfl, rfl⟩, by rw [ht]; exact hP9, hD9⟩, hS.F ht⟩) hS.2.2 dX1_add_20

theorem iw_X1_clear_X1 : ∀ w ∈ wsX10, w ∈ wsX1_clear := by decide +kernel
theorem lk_X1_clear_f15 : (.fieldLink RX1 15 "DataGuards$Octets" "length" "I" : Cond) ∈ wsX1_clear := by decide +kernel
set_option maxHeartbeats 4000000 in
set_option maxRecDepth 100000 in
/-- Octets.clear() -/
theorem c_X1_clear (l : Launch) (D : va_G) (cy : Nat → ClassId) (sz : Nat) (h0 : Nat) (h1 : Nat) (f : Nat → Int32) (n : Nat)  : Met l yX1_clear wsX1_clear ({ frames := 0, cells := 0, slots := 0, locals := 0 } : Room) (pre1 D cy [.ref h0] [(h0, .inr (2, [.ref h1, .int (nI n)])), (h1, .inl (cy 0, 70, .inl f))] sz) (va_Qv (fun (u : Unit) => True) (fun u t => va_P D vwCl [(h0, .inr (2, [.ref h1, .int (nI 0)])), (h1, .inl (cy 0, 70, .inl f))] t.heap ∧ va_D (va_A [(h0, .inr (2, [.ref h1, .int (nI n)])), (h1, .inl (cy 0, 70, .inl f))] sz) [(h0, .inr (2, [.ref h1, .int (nI 0)])), (h1, .inl (cy 0, 70, .inl f))]) (va_A [(h0, .inr (2, [.ref h1, .int (nI n)])), (h1, .inl (cy 0, 70, .inl f))] sz)) 0 0 (va_A [(h0, .inr (2, [.ref h1, .int (nI n)])), (h1, .inl (cy 0, 70, .inl f))] sz) := by
  refine Met.ofW (cc := cX1_clear) (maxL := 1) (ret := none) (by decide) rfl ?_
  intro p e s m args below meth c s₁ B hml hv
  obtain ⟨rfl, hsz, hP, hkk, hD0⟩ := hv
  have hx := B.exec
  have hb := B.bytes
  have hr := B.returns
  have hts := atoms_spec (ws := wsX1_clear) B.pre
  have hown : s.vm.findClass RX1 = some m.cls := findClass_of_methodNamed B.named
  have hlocks := B.notSynchronized
  have hin : meth.name = _ := (name_of_methodNamed B.named B.method).1
  have hK := hkk.1
  subst hsz
  have hD := hD0.self (sz := s.heap.size)
  generalize hAe : va_A [(h0, .inr (2, [.ref h1, .int (nI n)])), (h1, .inl (cy 0, 70, .inl f))] s.heap.size = A at hD ⊢
  have hA : ∀ q : Nat, s.heap.size ≤ q → A q := fun q h => by rw [← hAe]; exact Or.inr h
  have hS : va_S A s.heap s.heap [] := va_S.rf
  have hP : va_P D vwCl [(h0, .inr (2, [.ref h1, .int (nI n)])), (h1, .inl (cy 0, 70, .inl f))] s.heap := hP
  have hl := lv_entry ([.ref h0]) (n := 1) (Nat.le_of_ble_eq_true rfl)
  rw [lg_entry_eq]
  generalize (lg_sl ([.ref h0]) ++ List.replicate (1 - (lg_sl ([.ref h0])).length) Slot.unset).toArray = ls at hl ⊢
  have hl : lv_has ls 1 [(0, .ref h0)] := hl
  refine lv_aload_n hx hb dX1_clear_0 rfl (lv_at hl 0 rfl) ?_
  refine lv_iconst (v := 0) hx hb dX1_clear_1 (by decide) ?_
  refine lv_topi (fun x_1 ex_1 => ?_)
  obtain rfl : x_1 = nI 0 := by rw [ex_1]; exact nI_0.symm
  refine va_put (D := D) (ci := 2) (v := .int (nI 0)) (ty := .int) (C := RX1) (T := TX1) (N := 2) hx hb hts iw_X1_clear_X1 tyX1 tyX1_ok nmX1 hown hK hP hD hS 0 rfl rfl 1 (by decide) (hts _ lk_X1_clear_f15) (fun _ h9 => h9) rfl (by decide +kernel) rfl rfl (Nat.le_of_ble_eq_true rfl) dX1_clear_2 (fun H locs hP hD hS => ?_)
  have hP : va_P D vwCl [(h0, .inr (2, [.ref h1, .int (nI 0)])), (h1, .inl (cy 0, 70, .inl f))] H := hP
  have hD : va_D A [(h0, .inr (2, [.ref h1, .int (nI 0)])), (h1, .inl (cy 0, 70, .inl f))] := hD
  have hP9 := hP.sub (ws' := [(h0, .inr (2, [.ref h1, .int (nI 0)])), (h1, .inl (cy 0, 70, .inl f))]) [0, 1] rfl
  have hD9 := hD.sub (ws' := [(h0, .inr (2, [.ref h1, .int (nI 0)])), (h1, .inl (cy 0, 70, .inl f))]) [0, 1] (by decide) rfl
  exact W.vret hx hb hr (fun t ht hW => ⟨⟨(), rfl, trivial, by rw [ht]; exact hP9, hD9⟩, hS.F ht⟩) hS.2.2 dX1_clear_5

theorem iw_X1_flip_X1 : ∀ w ∈ wsX10, w ∈ wsX1_flip := by decide +kernel
theorem lk_X1_flip_f9 : (.fieldLink RX1 9 "DataGuards$Octets" "places" "[B" : Cond) ∈ wsX1_flip := by decide +kernel
set_option maxHeartbeats 4000000 in
set_option maxRecDepth 100000 in
/-- Octets.flip(i, mask) -/
theorem c_X1_flip (l : Launch) (D : va_G) (cy : Nat → ClassId) (sz : Nat) (h0 : Nat) (h1 : Nat) (f : Nat → Int32) (n : Nat) (i : Int32) (k : Int32) (hn : n ≤ 70) : Met l yX1_flip wsX1_flip ({ frames := 1, cells := 0, slots := 0, locals := 21 } : Room) (pre1 D cy [.ref h0, .int i, .int k] [(h0, .inr (2, [.ref h1, .int (nI n)])), (h1, .inl (cy 0, 70, .inl f))] sz) (va_Qv (fun (u : Unit) => True) (fun u t => va_P D vwCl [(h0, .inr (2, [.ref h1, .int (nI n)])), (h1, .inl (cy 0, 70, .inl (oc_flip f n i k)))] t.heap ∧ va_D (va_A [(h0, .inr (2, [.ref h1, .int (nI n)])), (h1, .inl (cy 0, 70, .inl f))] sz) [(h0, .inr (2, [.ref h1, .int (nI n)])), (h1, .inl (cy 0, 70, .inl (oc_flip f n i k)))]) (va_A [(h0, .inr (2, [.ref h1, .int (nI n)])), (h1, .inl (cy 0, 70, .inl f))] sz)) 0 0 (va_A [(h0, .inr (2, [.ref h1, .int (nI n)])), (h1, .inl (cy 0, 70, .inl f))] sz) := by
  refine Met.ofW (cc := cX1_flip) (maxL := 3) (ret := none) (by decide) rfl ?_
  intro p e s m args below meth c s₁ B hml hv
  obtain ⟨rfl, hsz, hP, hkk, hD0⟩ := hv
  have hx := B.exec
  have hb := B.bytes
  have hr := B.returns
  have hts := atoms_spec (ws := wsX1_flip) B.pre
  have hown : s.vm.findClass RX1 = some m.cls := findClass_of_methodNamed B.named
  have hlocks := B.notSynchronized
  have hin : meth.name = _ := (name_of_methodNamed B.named B.method).1
  have hK := hkk.1
  subst hsz
  have hD := hD0.self (sz := s.heap.size)
  generalize hAe : va_A [(h0, .inr (2, [.ref h1, .int (nI n)])), (h1, .inl (cy 0, 70, .inl f))] s.heap.size = A at hD ⊢
  have hA : ∀ q : Nat, s.heap.size ≤ q → A q := fun q h => by rw [← hAe]; exact Or.inr h
  have hS : va_S A s.heap s.heap [] := va_S.rf
  have hP : va_P D vwCl [(h0, .inr (2, [.ref h1, .int (nI n)])), (h1, .inl (cy 0, 70, .inl f))] s.heap := hP
  have hl := lv_entry ([.ref h0, .int i, .int k]) (n := 3) (Nat.le_of_ble_eq_true rfl)
  rw [lg_entry_eq]
  generalize (lg_sl ([.ref h0, .int i, .int k]) ++ List.replicate (3 - (lg_sl ([.ref h0, .int i, .int k])).length) Slot.unset).toArray = ls at hl ⊢
  have hl : lv_has ls 3 [(0, .ref h0), (1, .int i), (2, .int k)] := hl
  refine lv_aload_n hx hb dX1_flip_0 rfl (lv_at hl 0 rfl) ?_
  refine lv_iload_n hx hb dX1_flip_1 rfl (lv_at hl 1 rfl) ?_
  have hPc := hP.sub (ws' := [(h0, .inr (2, [.ref h1, .int (nI n)])), (h1, .inl (cy 0, 70, .inl f))]) [0, 1] rfl
  have hDc := hD.sub (ws' := [(h0, .inr (2, [.ref h1, .int (nI n)])), (h1, .inl (cy 0, 70, .inl f))]) [0, 1] (by decide) rfl
  have hFc := va_free (wc := [(h0, .inr (2, [.ref h1, .int (nI n)])), (h1, .inl (cy 0, 70, .inl f))]) hD hS hA [0, 1] rfl
  refine va_calli (va_runV (As := [.int i]) (rest := []) ⟨hx, hb, hml, hown, hts⟩ (c_X1_has l D cy s.heap.size h0 h1 f n i (by first | assumption | omega)) (cwV 1 hts gX1_flip_X1_has rfl rfl rfl (by decide +kernel) ⟨Nat.le_of_ble_eq_true rfl, Nat.le_of_ble_eq_true rfl⟩) (pv_V (ci := 2) (q := (RX1, TX1, 2)) hkk hPc hDc rfl rfl rfl) rfl rfl hl.1 rfl (lv_room (Nat.le_of_ble_eq_true rfl)) dX1_flip_2 ⟨Nat.le_of_ble_eq_true rfl, Nat.le_of_ble_eq_true rfl⟩) hS (fun q _ h => hFc q h) hFc (fun r_2 u t H1 locs ht hvm hw hB hz1 hk1 hS => ?_)
  obtain ⟨hP1, hD1⟩ := hB
  rw [ht] at hP1
  try dsimp only at hw hP1 hD1
  obtain ⟨hP, hD⟩ := va_join (wr := []) (w1 := [(h0, .inr (2, [.ref h1, .int (nI n)])), (h1, .inl (cy 0, 70, .inl f))]) hP hD [0, 1] [] rfl rfl (by decide) (by decide) hk1 hFc hP1 hD1
  clear hPc hDc hFc hP1 hD1 hz1 hk1
  generalize H1 = H at hP hS ⊢
  have hP : va_P D vwCl [(h0, .inr (2, [.ref h1, .int (nI n)])), (h1, .inl (cy 0, 70, .inl f))] H := hP
  have hD : va_D A [(h0, .inr (2, [.ref h1, .int (nI n)])), (h1, .inl (cy 0, 70, .inl f))] := hD
  obtain rfl := hw
  refine lv_if_eq (tgt := 23) hx hb dX1_flip_5 (by decide) (fun c_5 => ?_) (fun c_5 => ?_)
  · rw [oc_flip_no (f := f) (k := k) c_5] at hP hD
    have hP9 := hP.sub (ws' := [(h0, .inr (2, [.ref h1, .int (nI n)])), (h1, .inl (cy 0, 70, .inl (oc_flip f n i k)))]) [0, 1] rfl
    have hD9 := hD.sub (ws' := [(h0, .inr (2, [.ref h1, .int (nI n)])), (h1, .inl (cy 0, 70, .inl (oc_flip f n i k)))]) [0, 1] (by decide) rfl
    exact W.vret hx hb hr (fun t ht hW => ⟨⟨(), rfl, trivial, by rw [ht]; exact hP9, hD9⟩, hS.F ht⟩) hS.2.2 dX1_flip_23
  · refine lv_aload_n hx hb dX1_flip_8 rfl (lv_at hl 0 rfl) ?_
    refine va_get (D := D) (ci := 2) (v := .ref h1) (C := RX1) (T := TX1) (N := 2) hx hb hts iw_X1_flip_X1 hown hK hP 0 rfl rfl 0 (by decide) (hts _ lk_X1_flip_f9) (fun _ h9 => h9) rfl dX1_flip_9 ?_
    refine lv_iload_n hx hb dX1_flip_12 rfl (lv_at hl 1 rfl) ?_
    refine lv_aload_n hx hb dX1_flip_13 rfl (lv_at hl 0 rfl) ?_
    refine va_get (D := D) (ci := 2) (v := .ref h1) (C := RX1) (T := TX1) (N := 2) hx hb hts iw_X1_flip_X1 hown hK hP 0 rfl rfl 0 (by decide) (hts _ lk_X1_flip_f9) (fun _ h9 => h9) rfl dX1_flip_14 ?_
    refine lv_iload_n hx hb dX1_flip_17 rfl (lv_at hl 1 rfl) ?_
    refine va_bald hx hb hK hP 1 0 rfl rfl (oc_vp hn c_5) dX1_flip_18 ?_
    refine lv_iload_n hx hb dX1_flip_19 rfl (lv_at hl 2 rfl) ?_
    refine lv_ixor hx hb dX1_flip_20 ?_
    refine lv_i2b (v := ((f i.toNatClampNeg) ^^^ k).toInt8.toInt32) hx hb dX1_flip_21 rfl ?_
    refine va_bast hx hb hK hP hD hS 1 0 rfl rfl (oc_vp hn c_5) dX1_flip_22 (fun H locs hP hD hS => ?_)
    have hP : va_P D vwCl [(h0, .inr (2, [.ref h1, .int (nI n)])), (h1, .inl (cy 0, 70, .inl (upd f i.toNatClampNeg (vp_nar .byte (((f i.toNatClampNeg) ^^^ k).toInt8.toInt32)))))] H := hP
    have hD : va_D A [(h0, .inr (2, [.ref h1, .int (nI n)])), (h1, .inl (cy 0, 70, .inl (upd f i.toNatClampNeg (vp_nar .byte (((f i.toNatClampNeg) ^^^ k).toInt8.toInt32)))))] := hD
    have eA_22 : upd f i.toNatClampNeg (vp_nar .byte (((f i.toNatClampNeg) ^^^ k).toInt8.toInt32)) = oc_flip f n i k := by rw [pk_vb]; exact oc_flip_yes c_5
    rw [eA_22] at hP hD
    have hP9 := hP.sub (ws' := [(h0, .inr (2, [.ref h1, .int (nI n)])), (h1, .inl (cy 0, 70, .inl (oc_flip f n i k)))]) [0, 1] rfl
    have hD9 := hD.sub (ws' := [(h0, .inr (2, [.ref h1, .int (nI n)])), (h1, .inl (cy 0, 70, .inl (oc_flip f n i k)))]) [0, 1] (by decide) rfl
    exact W.vret hx hb hr (fun t ht hW => ⟨⟨(), rfl, trivial, by rw [ht]; exact hP9, hD9⟩, hS.F ht⟩) hS.2.2 dX1_flip_23
end
section
theorem oc_aa_step {f f1 g : Nat → Int32} {n k m : Nat} (h : ∀ j, j < k → f1 (n + j) = (oc_get g m (nI j)).toInt8.toInt32) : ∀ j, j < k + 1 → upd f1 (n + k) (oc_get g m (nI k)).toInt8.toInt32 (n + j) = (oc_get g m (nI j)).toInt8.toInt32 := by
  intro j hj
  by_cases e : j = k
  · subst e; exact pk_us
  · rw [pk_un (by omega)]; exact h j (by omega)
theorem oc_an_step {f1 : Nat → Int32} {n k m q : Nat} {x : Int32} (hq : q + 1 + k = m) (h : ∀ j, j < k → f1 (n + j) = (oc_dig x (m - 1 - j)).toInt8.toInt32) : ∀ j, j < k + 1 → upd f1 (n + k) (oc_dig x q).toInt8.toInt32 (n + j) = (oc_dig x (m - 1 - j)).toInt8.toInt32 := by
  intro j hj
  by_cases e : j = k
  · subst e; rw [pk_us, show m - 1 - j = q by omega]
  · rw [pk_un (by omega)]; exact h j (by omega)
end
section
theorem lk_X1_init_m3 : (.methodLink RX1 3 objectInit : Cond) ∈ wsX1_init := by decide +kernel
theorem lk_X1_init_oi : (.instanceMethod objectInit : Cond) ∈ wsX1_init := by decide +kernel
theorem lk_X1_init_oc : (.code objectInit ⟨#[0xb1]⟩ 1 none : Cond) ∈ wsX1_init := by decide +kernel
theorem lk_X1_init_abyte : (.arrayClass .byte : Cond) ∈ wsX1_init := by decide +kernel
theorem iw_X1_init_X1 : ∀ w ∈ wsX10, w ∈ wsX1_init := by decide +kernel
theorem lk_X1_init_f9 : (.fieldLink RX1 9 "DataGuards$Octets" "places" "[B" : Cond) ∈ wsX1_init := by decide +kernel
set_option maxHeartbeats 4000000 in
set_option maxRecDepth 100000 in
/-- new Octets() -/
theorem c_X1_init (l : Launch) (D : va_G) (cy : Nat → ClassId) (sz : Nat) (h0 : Nat)  : Met l yX1_init wsX1_init ({ frames := 1, cells := 1, slots := 70, locals := 20 } : Room) (pre1 D cy [.ref h0] [(h0, .inr (2, [.null, .int 0]))] sz) (va_Qv (fun (u : (Nat)) => True) (fun u t => va_P D vwCl [(h0, .inr (2, [.ref u, .int 0])), (u, .inl (cy 0, 70, .inl (fun _ => 0)))] t.heap ∧ va_D (va_A [(h0, .inr (2, [.null, .int 0]))] sz) [(h0, .inr (2, [.ref u, .int 0])), (u, .inl (cy 0, 70, .inl (fun _ => 0)))]) (va_A [(h0, .inr (2, [.null, .int 0]))] sz)) 1 70 (va_A [(h0, .inr (2, [.null, .int 0]))] sz) := by
  refine Met.ofW (cc := cX1_init) (maxL := 1) (ret := none) (by decide) rfl ?_
  intro p e s m args below meth c s₁ B hml hv
  obtain ⟨rfl, hsz, hP, hkk, hD0⟩ := hv
  have hx := B.exec
  have hb := B.bytes
  have hr := B.returns
  have hts := atoms_spec (ws := wsX1_init) B.pre
  have hown : s.vm.findClass RX1 = some m.cls := findClass_of_methodNamed B.named
  have hlocks := B.notSynchronized
  have hin : meth.name = _ := (name_of_methodNamed B.named B.method).1
  have hK := hkk.1
  subst hsz
  have hD := hD0.self (sz := s.heap.size)
  generalize hAe : va_A [(h0, .inr (2, [.null, .int 0]))] s.heap.size = A at hD ⊢
  have hA : ∀ q : Nat, s.heap.size ≤ q → A q := fun q h => by rw [← hAe]; exact Or.inr h
  have hS : va_S A s.heap s.heap [] := va_S.rf
  have hP : va_P D vwCl [(h0, .inr (2, [.null, .int 0]))] s.heap := hP
  have hl := lv_entry ([.ref h0]) (n := 1) (Nat.le_of_ble_eq_true rfl)
  rw [lg_entry_eq]
  generalize (lg_sl ([.ref h0]) ++ List.replicate (1 - (lg_sl ([.ref h0])).length) Slot.unset).toArray = ls at hl ⊢
  have hl : lv_has ls 1 [(0, .ref h0)] := hl
  refine lv_aload_n hx hb dX1_init_0 rfl (lv_at hl 0 rfl) ?_
  refine W.objInit hx hb hown (hts _ lk_X1_init_m3) (hts _ lk_X1_init_oi) (hts _ lk_X1_init_oc) rfl (by rw [hml]; exact hl.1) rfl dX1_init_1 (Nat.le_of_ble_eq_true rfl) (Nat.le_of_ble_eq_true rfl) ?_
  refine W.eq (g2 := F0 m 4 ls []) rfl ?_
  refine lv_aload_n hx hb dX1_init_4 rfl (lv_at hl 0 rfl) ?_
  refine lv_bipush (v := 70) hx hb dX1_init_5 (by decide) ?_
  refine va_newa (atype := .byte) (a0 := (70, .inl (fun _ => 0))) (N' := 70) (ty := .byte) hx hb (hts _ lk_X1_init_abyte) rfl hK hP hD hS hA (fun _ => rfl) (by decide) (by decide) (by decide) (Nat.le_of_ble_eq_true rfl) (Nat.le_of_ble_eq_true rfl) dX1_init_7 (fun q_7 cA_7 H hK2 hP hD hS => ?_)
  obtain rfl : cA_7 = cy 0 := kk_same hK2 0 4 rfl rfl (fun _ h => by cases h)
  have hP : va_P D vwCl [(h0, .inr (2, [.null, .int 0])), (q_7, .inl (cy 0, 70, .inl (fun _ => 0)))] H := hP
  have hD : va_D A [(h0, .inr (2, [.null, .int 0])), (q_7, .inl (cy 0, 70, .inl (fun _ => 0)))] := hD
  refine W.widen (k := 1) (n := 70) (by decide) (by decide) ?_
  refine va_putF (D := D) (ci := 2) (v := .ref q_7) (ty := (.array .byte)) (C := RX1) (T := TX1) (N := 2) hx hb hts iw_X1_init_X1 tyX1 tyX1_ok nmX1 hown hK hP hD hS 0 rfl rfl 0 (by decide) (hts _ lk_X1_init_f9) (fun _ h9 => h9) rfl hin rfl (by decide +kernel) rfl rfl (Nat.le_of_ble_eq_true rfl) dX1_init_9 (fun H locs hP hD hS => ?_)
  have hP : va_P D vwCl [(h0, .inr (2, [.ref q_7, .int 0])), (q_7, .inl (cy 0, 70, .inl (fun _ => 0)))] H := hP
  have hD : va_D A [(h0, .inr (2, [.ref q_7, .int 0])), (q_7, .inl (cy 0, 70, .inl (fun _ => 0)))] := hD
  have hP9 := hP.sub (ws' := [(h0, .inr (2, [.ref q_7, .int 0])), (q_7, .inl (cy 0, 70, .inl (fun _ => 0)))]) [0, 1] rfl
  have hD9 := hD.sub (ws' := [(h0, .inr (2, [.ref q_7, .int 0])), (q_7, .inl (cy 0, 70, .inl (fun _ => 0)))]) [0, 1] (by decide) rfl
  exact W.vret hx hb hr (fun t ht hW => ⟨⟨q_7, rfl, trivial, by rw [ht]; exact hP9, hD9⟩, hS.F ht⟩) hS.2.2 dX1_init_12

theorem iw_X1_addAll_X1 : ∀ w ∈ wsX10, w ∈ wsX1_addAll := by decide +kernel
theorem lk_X1_addAll_f15 : (.fieldLink RX1 15 "DataGuards$Octets" "length" "I" : Cond) ∈ wsX1_addAll := by decide +kernel
set_option maxHeartbeats 4000000 in
set_option maxRecDepth 100000 in
/-- Octets.addAll(others) -/
theorem c_X1_addAll (l : Launch) (D : va_G) (cy : Nat → ClassId) (sz : Nat) (h0 : Nat) (h1 : Nat) (f : Nat → Int32) (n : Nat) (g0 : Nat) (g1 : Nat) (g : Nat → Int32) (w : Nat) (hn : n + w ≤ 70) : Met l yX1_addAll wsX1_addAll ({ frames := 2, cells := 0, slots := 0, locals := 42 } : Room) (pre1 D cy [.ref h0, .ref g0] [(h0, .inr (2, [.ref h1, .int (nI n)])), (h1, .inl (cy 0, 70, .inl f)), (g0, .inr (2, [.ref g1, .int (nI w)])), (g1, .inl (cy 0, 70, .inl g))] sz) (va_Qv (fun (u : (Nat → Int32)) => (∀ j, j < n → u j = f j) ∧ (∀ j, j < w → u (n + j) = (oc_get g w (nI j)).toInt8.toInt32)) (fun u t => va_P D vwCl [(h0, .inr (2, [.ref h1, .int (nI (n + w))])), (h1, .inl (cy 0, 70, .inl u)), (g0, .inr (2, [.ref g1, .int (nI w)])), (g1, .inl (cy 0, 70, .inl g))] t.heap ∧ va_D (va_A [(h0, .inr (2, [.ref h1, .int (nI n)])), (h1, .inl (cy 0, 70, .inl f)), (g0, .inr (2, [.ref g1, .int (nI w)])), (g1, .inl (cy 0, 70, .inl g))] sz) [(h0, .inr (2, [.ref h1, .int (nI (n + w))])), (h1, .inl (cy 0, 70, .inl u)), (g0, .inr (2, [.ref g1, .int (nI w)])), (g1, .inl (cy 0, 70, .inl g))]) (va_A [(h0, .inr (2, [.ref h1, .int (nI n)])), (h1, .inl (cy 0, 70, .inl f)), (g0, .inr (2, [.ref g1, .int (nI w)])), (g1, .inl (cy 0, 70, .inl g))] sz)) 0 0 (va_A [(h0, .inr (2, [.ref h1, .int (nI n)])), (h1, .inl (cy 0, 70, .inl f)), (g0, .inr (2, [.ref g1, .int (nI w)])), (g1, .inl (cy 0, 70, .inl g))] sz) := by
  refine Met.ofW (cc := cX1_addAll) (maxL := 3) (ret := none) (by decide) rfl ?_
  intro p e s m args below meth c s₁ B hml hv
  obtain ⟨rfl, hsz, hP, hkk, hD0⟩ := hv
  have hx := B.exec
  have hb := B.bytes
  have hr := B.returns
  have hts := atoms_spec (ws := wsX1_addAll) B.pre
  have hown : s.vm.findClass RX1 = some m.cls := findClass_of_methodNamed B.named
  have hlocks := B.notSynchronized
  have hin : meth.name = _ := (name_of_methodNamed B.named B.method).1
  have hK := hkk.1
  subst hsz
  have hD := hD0.self (sz := s.heap.size)
  generalize hAe : va_A [(h0, .inr (2, [.ref h1, .int (nI n)])), (h1, .inl (cy 0, 70, .inl f)), (g0, .inr (2, [.ref g1, .int (nI w)])), (g1, .inl (cy 0, 70, .inl g))] s.heap.size = A at hD ⊢
  have hA : ∀ q : Nat, s.heap.size ≤ q → A q := fun q h => by rw [← hAe]; exact Or.inr h
  have hS : va_S A s.heap s.heap [] := va_S.rf
  have hP : va_P D vwCl [(h0, .inr (2, [.ref h1, .int (nI n)])), (h1, .inl (cy 0, 70, .inl f)), (g0, .inr (2, [.ref g1, .int (nI w)])), (g1, .inl (cy 0, 70, .inl g))] s.heap := hP
  have hl := lv_entry ([.ref h0, .ref g0]) (n := 3) (Nat.le_of_ble_eq_true rfl)
  rw [lg_entry_eq]
  generalize (lg_sl ([.ref h0, .ref g0]) ++ List.replicate (3 - (lg_sl ([.ref h0, .ref g0])).length) Slot.unset).toArray = ls at hl ⊢
  have hl : lv_has ls 3 [(0, .ref h0), (1, .ref g0)] := hl
  refine lv_iconst (v := 0) hx hb dX1_addAll_0 (by decide) ?_
  refine lv_topi (fun x_0 ex_0 => ?_)
  obtain rfl : x_0 = nI 0 := by rw [ex_0]; exact nI_0.symm
  refine lv_istore_n (lv' := [(2, .int (nI 0)), (0, .ref h0), (1, .ref g0)]) hx hb dX1_addAll_1 rfl hl (by decide) rfl (fun ls hl => ?_)
  have cut_2 : ∀ (N : Nat) (k : Nat) (f1 : Nat → Int32) (H : Heap) (locs : List Loc), w - k < N → k ≤ w → (∀ j, j < n → f1 j = f j) → (∀ j, j < k → f1 (n + j) = (oc_get g w (nI j)).toInt8.toInt32) → va_P D vwCl [(h0, .inr (2, [.ref h1, .int (nI (n + k))])), (h1, .inl (cy 0, 70, .inl f1)), (g0, .inr (2, [.ref g1, .int (nI w)])), (g1, .inl (cy 0, 70, .inl g))] H → va_D A [(h0, .inr (2, [.ref h1, .int (nI (n + k))])), (h1, .inl (cy 0, 70, .inl f1)), (g0, .inr (2, [.ref g1, .int (nI w)])), (g1, .inl (cy 0, 70, .inl g))] → va_S A s.heap H locs → ∀ (ls : Array Slot), lv_has ls 3 [(0, .ref h0), (1, .ref g0), (2, .int (nI k))] → W p l e (headSpec wsX1_addAll ({ frames := 2, cells := 0, slots := 0, locals := 42 } : Room)).room s m [.ref h0, .ref g0].toArray below meth c H locs 0 0 (MQ below (va_Qv (fun (u : (Nat → Int32)) => (∀ j, j < n → u j = f j) ∧ (∀ j, j < w → u (n + j) = (oc_get g w (nI j)).toInt8.toInt32)) (fun u t => va_P D vwCl [(h0, .inr (2, [.ref h1, .int (nI (n + w))])), (h1, .inl (cy 0, 70, .inl u)), (g0, .inr (2, [.ref g1, .int (nI w)])), (g1, .inl (cy 0, 70, .inl g))] t.heap ∧ va_D A [(h0, .inr (2, [.ref h1, .int (nI (n + w))])), (h1, .inl (cy 0, 70, .inl u)), (g0, .inr (2, [.ref g1, .int (nI w)])), (g1, .inl (cy 0, 70, .inl g))]) A) [.ref h0, .ref g0].toArray s 0 0 A) (F0 m 2 ls []) := by
    intro N
    induction N with
    | zero => intro k f1 H locs hN; exact absurd hN (Nat.not_lt_zero _)
    | succ N ih =>
      intro k f1 H locs hN hk ha hb2 hP hD hS ls hl
      refine lv_iload_n hx hb dX1_addAll_2 rfl (lv_at hl 2 rfl) ?_
      refine lv_aload_n hx hb dX1_addAll_3 rfl (lv_at hl 1 rfl) ?_
      refine va_get (D := D) (ci := 2) (v := .int (nI w)) (C := RX1) (T := TX1) (N := 2) hx hb hts iw_X1_addAll_X1 hown hK hP 2 rfl rfl 1 (by decide) (hts _ lk_X1_addAll_f15) (fun _ h9 => h9) rfl dX1_addAll_4 ?_
      refine lv_icmp_ge (tgt := 26) hx hb dX1_addAll_7 (by decide) (fun c_7 => ?_) (fun c_7 => ?_)
      · obtain rfl : w = k := Nat.le_antisymm ((oc_ltN (by omega) (by omega)).mp c_7) hk
        have hP9 := hP.sub (ws' := [(h0, .inr (2, [.ref h1, .int (nI (n + w))])), (h1, .inl (cy 0, 70, .inl f1)), (g0, .inr (2, [.ref g1, .int (nI w)])), (g1, .inl (cy 0, 70, .inl g))]) [0, 1, 2, 3] rfl
        have hD9 := hD.sub (ws' := [(h0, .inr (2, [.ref h1, .int (nI (n + w))])), (h1, .inl (cy 0, 70, .inl f1)), (g0, .inr (2, [.ref g1, .int (nI w)])), (g1, .inl (cy 0, 70, .inl g))]) [0, 1, 2, 3] (by decide) rfl
        exact W.vret hx hb hr (fun t ht hW => ⟨⟨f1, rfl, ⟨ha, hb2⟩, by rw [ht]; exact hP9, hD9⟩, hS.F ht⟩) hS.2.2 dX1_addAll_26
      · have hkm : k < w := Nat.not_le.mp fun q => c_7 ((oc_ltN (by omega) (by omega)).mpr q)
        refine lv_aload_n hx hb dX1_addAll_10 rfl (lv_at hl 0 rfl) ?_
        refine lv_aload_n hx hb dX1_addAll_11 rfl (lv_at hl 1 rfl) ?_
        refine lv_iload_n hx hb dX1_addAll_12 rfl (lv_at hl 2 rfl) ?_
        have hPc := hP.sub (ws' := [(g0, .inr (2, [.ref g1, .int (nI w)])), (g1, .inl (cy 0, 70, .inl g))]) [2, 3] rfl
        have hDc := hD.sub (ws' := [(g0, .inr (2, [.ref g1, .int (nI w)])), (g1, .inl (cy 0, 70, .inl g))]) [2, 3] (by decide) rfl
        have hFc := va_free (wc := [(g0, .inr (2, [.ref g1, .int (nI w)])), (g1, .inl (cy 0, 70, .inl g))]) hD hS hA [2, 3] rfl
        refine va_calli (va_runV (As := [.int (nI k)]) (rest := [.ref h0]) ⟨hx, hb, hml, hown, hts⟩ (c_X1_get l D cy H.size g0 g1 g w (nI k) (by omega)) (cwV 1 hts gX1_addAll_X1_get rfl rfl rfl (by decide +kernel) ⟨Nat.le_of_ble_eq_true rfl, Nat.le_of_ble_eq_true rfl⟩) (pv_V (ci := 2) (q := (RX1, TX1, 2)) hkk hPc hDc rfl rfl rfl) rfl rfl hl.1 rfl (lv_room (Nat.le_of_ble_eq_true rfl)) dX1_addAll_13 ⟨Nat.le_of_ble_eq_true rfl, Nat.le_of_ble_eq_true rfl⟩) hS (fun q _ h => hFc q h) hFc (fun r_13 u t H1 locs ht hvm hw hB hz1 hk1 hS => ?_)
        obtain ⟨hP1, hD1⟩ := hB
        rw [ht] at hP1
        try dsimp only at hw hP1 hD1
        obtain ⟨hP, hD⟩ := va_join (wr := [(h0, .inr (2, [.ref h1, .int (nI (n + k))])), (h1, .inl (cy 0, 70, .inl f1))]) (w1 := [(g0, .inr (2, [.ref g1, .int (nI w)])), (g1, .inl (cy 0, 70, .inl g))]) hP hD [2, 3] [0, 1] rfl rfl (by decide) (by decide) hk1 hFc hP1 hD1
        clear hPc hDc hFc hP1 hD1 hz1 hk1
        generalize H1 = H at hP hS ⊢
        have hP : va_P D vwCl [(h0, .inr (2, [.ref h1, .int (nI (n + k))])), (h1, .inl (cy 0, 70, .inl f1)), (g0, .inr (2, [.ref g1, .int (nI w)])), (g1, .inl (cy 0, 70, .inl g))] H := hP
        have hD : va_D A [(h0, .inr (2, [.ref h1, .int (nI (n + k))])), (h1, .inl (cy 0, 70, .inl f1)), (g0, .inr (2, [.ref g1, .int (nI w)])), (g1, .inl (cy 0, 70, .inl g))] := hD
        obtain rfl := hw
        have hPc := hP.sub (ws' := [(h0, .inr (2, [.ref h1, .int (nI (n + k))])), (h1, .inl (cy 0, 70, .inl f1))]) [0, 1] rfl
        have hDc := hD.sub (ws' := [(h0, .inr (2, [.ref h1, .int (nI (n + k))])), (h1, .inl (cy 0, 70, .inl f1))]) [0, 1] (by decide) rfl
        have hFc := va_free (wc := [(h0, .inr (2, [.ref h1, .int (nI (n + k))])), (h1, .inl (cy 0, 70, .inl f1))]) hD hS hA [0, 1] rfl
        refine va_calli (va_runV (As := [.int (oc_get g w (nI k))]) (rest := []) ⟨hx, hb, hml, hown, hts⟩ (c_X1_add l D cy H.size h0 h1 f1 (n + k) (oc_get g w (nI k)) (by omega)) (cwV 1 hts gX1_addAll_X1_add rfl rfl rfl (by decide +kernel) ⟨Nat.le_of_ble_eq_true rfl, Nat.le_of_ble_eq_true rfl⟩) (pv_V (ci := 2) (q := (RX1, TX1, 2)) hkk hPc hDc rfl rfl rfl) rfl rfl hl.1 rfl (lv_room (Nat.le_of_ble_eq_true rfl)) dX1_addAll_16 ⟨Nat.le_of_ble_eq_true rfl, Nat.le_of_ble_eq_true rfl⟩) hS (fun q _ h => hFc q h) hFc (fun r_16 u t H1 locs ht hvm hw hB hz1 hk1 hS => ?_)
        obtain ⟨f2_16, n2_16⟩ := u
        obtain ⟨hP1, hD1⟩ := hB
        rw [ht] at hP1
        try dsimp only at hw hP1 hD1
        obtain ⟨hP, hD⟩ := va_join (wr := [(g0, .inr (2, [.ref g1, .int (nI w)])), (g1, .inl (cy 0, 70, .inl g))]) (w1 := [(h0, .inr (2, [.ref h1, .int (nI n2_16)])), (h1, .inl (cy 0, 70, .inl f2_16))]) hP hD [0, 1] [2, 3] rfl rfl (by decide) (by decide) hk1 hFc hP1 hD1
        clear hPc hDc hFc hP1 hD1 hz1 hk1
        generalize H1 = H at hP hS ⊢
        have hP : va_P D vwCl [(g0, .inr (2, [.ref g1, .int (nI w)])), (g1, .inl (cy 0, 70, .inl g)), (h0, .inr (2, [.ref h1, .int (nI n2_16)])), (h1, .inl (cy 0, 70, .inl f2_16))] H := hP
        have hD : va_D A [(g0, .inr (2, [.ref g1, .int (nI w)])), (g1, .inl (cy 0, 70, .inl g)), (h0, .inr (2, [.ref h1, .int (nI n2_16)])), (h1, .inl (cy 0, 70, .inl f2_16))] := hD
        have hw_16 := hw
        obtain ⟨rfl, rfl, rfl⟩ := oc_add_lt hw_16 (by omega)
        refine lv_pop hx hb dX1_addAll_19 rfl ?_
        refine lv_iinc (v := nI (k + 1)) (lv' := [(2, .int (nI (k + 1))), (0, .ref h0), (1, .ref g0)]) hx hb dX1_addAll_20 hl (k := 2) rfl (nI_1 k) (by decide) rfl (fun ls hl => ?_)
        refine lv_goto (tgt := 2) hx hb dX1_addAll_23 (by decide) ?_
        exact ih (k + 1) (upd f1 (n + k) (oc_get g w (nI k)).toInt8.toInt32) _ _ (by omega) (by omega) (fun j hj => (pk_un (by omega)).trans (ha j hj)) (oc_aa_step (f := f) hb2) (hP.sub (ws' := [(h0, .inr (2, [.ref h1, .int (nI (n + (k + 1)))])), (h1, .inl (cy 0, 70, .inl (upd f1 (n + k) (oc_get g w (nI k)).toInt8.toInt32))), (g0, .inr (2, [.ref g1, .int (nI w)])), (g1, .inl (cy 0, 70, .inl g))]) [2, 3, 0, 1] rfl) (hD.sub (ws' := [(h0, .inr (2, [.ref h1, .int (nI (n + (k + 1)))])), (h1, .inl (cy 0, 70, .inl (upd f1 (n + k) (oc_get g w (nI k)).toInt8.toInt32))), (g0, .inr (2, [.ref g1, .int (nI w)])), (g1, .inl (cy 0, 70, .inl g))]) [2, 3, 0, 1] (by decide) rfl) hS _ (lv_sub hl [1, 2, 0] rfl)
  exact cut_2 _ 0 f _ _ (Nat.lt_succ_self _) (Nat.zero_le _) (fun _ _ => rfl) (fun j hj => absurd hj (Nat.not_lt_zero j)) hP hD hS _ (lv_sub hl [1, 2, 0] rfl)


set_option maxHeartbeats 4000000 in
set_option maxRecDepth 100000 in
/-- Octets.addNumber(number, octets) -/
theorem c_X1_addNumber (l : Launch) (D : va_G) (cy : Nat → ClassId) (sz : Nat) (h0 : Nat) (h1 : Nat) (f : Nat → Int32) (n : Nat) (x : Int32) (w : Nat) (hm : w ≤ 8) (hn : n + w ≤ 70) : Met l yX1_addNumber wsX1_addNumber ({ frames := 1, cells := 0, slots := 0, locals := 21 } : Room) (pre1 D cy [.ref h0, .int x, .int (nI w)] [(h0, .inr (2, [.ref h1, .int (nI n)])), (h1, .inl (cy 0, 70, .inl f))] sz) (va_Qv (fun (u : (Nat → Int32)) => (∀ j, j < n → u j = f j) ∧ (∀ j, j < w → u (n + j) = (oc_dig x (w - 1 - j)).toInt8.toInt32)) (fun u t => va_P D vwCl [(h0, .inr (2, [.ref h1, .int (nI (n + w))])), (h1, .inl (cy 0, 70, .inl u))] t.heap ∧ va_D (va_A [(h0, .inr (2, [.ref h1, .int (nI n)])), (h1, .inl (cy 0, 70, .inl f))] sz) [(h0, .inr (2, [.ref h1, .int (nI (n + w))])), (h1, .inl (cy 0, 70, .inl u))]) (va_A [(h0, .inr (2, [.ref h1, .int (nI n)])), (h1, .inl (cy 0, 70, .inl f))] sz)) 0 0 (va_A [(h0, .inr (2, [.ref h1, .int (nI n)])), (h1, .inl (cy 0, 70, .inl f))] sz) := by
  refine Met.ofW (cc := cX1_addNumber) (maxL := 4) (ret := none) (by decide) rfl ?_
  intro p e s m args below meth c s₁ B hml hv
  obtain ⟨rfl, hsz, hP, hkk, hD0⟩ := hv
  have hx := B.exec
  have hb := B.bytes
  have hr := B.returns
  have hts := atoms_spec (ws := wsX1_addNumber) B.pre
  have hown : s.vm.findClass RX1 = some m.cls := findClass_of_methodNamed B.named
  have hlocks := B.notSynchronized
  have hin : meth.name = _ := (name_of_methodNamed B.named B.method).1
  have hK := hkk.1
  subst hsz
  have hD := hD0.self (sz := s.heap.size)
  generalize hAe : va_A [(h0, .inr (2, [.ref h1, .int (nI n)])), (h1, .inl (cy 0, 70, .inl f))] s.heap.size = A at hD ⊢
  have hA : ∀ q : Nat, s.heap.size ≤ q → A q := fun q h => by rw [← hAe]; exact Or.inr h
  have hS : va_S A s.heap s.heap [] := va_S.rf
  have hP : va_P D vwCl [(h0, .inr (2, [.ref h1, .int (nI n)])), (h1, .inl (cy 0, 70, .inl f))] s.heap := hP
  have hl := lv_entry ([.ref h0, .int x, .int (nI w)]) (n := 4) (Nat.le_of_ble_eq_true rfl)
  rw [lg_entry_eq]
  generalize (lg_sl ([.ref h0, .int x, .int (nI w)]) ++ List.replicate (4 - (lg_sl ([.ref h0, .int x, .int (nI w)])).length) Slot.unset).toArray = ls at hl ⊢
  have hl : lv_has ls 4 [(0, .ref h0), (1, .int x), (2, .int (nI w))] := hl
  refine lv_iload_n hx hb dX1_addNumber_0 rfl (lv_at hl 2 rfl) ?_
  refine lv_iconst (v := 1) hx hb dX1_addNumber_1 (by decide) ?_
  refine lv_isub hx hb dX1_addNumber_2 ?_
  refine lv_istore_n (lv' := [(3, .int ((nI w) - 1)), (0, .ref h0), (1, .int x), (2, .int (nI w))]) hx hb dX1_addNumber_3 rfl hl (by decide) rfl (fun ls hl => ?_)
  have cut_4 : ∀ (N : Nat) (q : Nat) (k : Nat) (f1 : Nat → Int32) (H : Heap) (locs : List Loc), q < N → q + k = w → (∀ j, j < n → f1 j = f j) → (∀ j, j < k → f1 (n + j) = (oc_dig x (w - 1 - j)).toInt8.toInt32) → va_P D vwCl [(h0, .inr (2, [.ref h1, .int (nI (n + k))])), (h1, .inl (cy 0, 70, .inl f1))] H → va_D A [(h0, .inr (2, [.ref h1, .int (nI (n + k))])), (h1, .inl (cy 0, 70, .inl f1))] → va_S A s.heap H locs → ∀ (ls : Array Slot), lv_has ls 4 [(0, .ref h0), (1, .int x), (3, .int (nI q - 1))] → W p l e (headSpec wsX1_addNumber ({ frames := 1, cells := 0, slots := 0, locals := 21 } : Room)).room s m [.ref h0, .int x, .int (nI w)].toArray below meth c H locs 0 0 (MQ below (va_Qv (fun (u : (Nat → Int32)) => (∀ j, j < n → u j = f j) ∧ (∀ j, j < w → u (n + j) = (oc_dig x (w - 1 - j)).toInt8.toInt32)) (fun u t => va_P D vwCl [(h0, .inr (2, [.ref h1, .int (nI (n + w))])), (h1, .inl (cy 0, 70, .inl u))] t.heap ∧ va_D A [(h0, .inr (2, [.ref h1, .int (nI (n + w))])), (h1, .inl (cy 0, 70, .inl u))]) A) [.ref h0, .int x, .int (nI w)].toArray s 0 0 A) (F0 m 4 ls []) := by
    intro N
    induction N with
    | zero => intro q k f1 H locs hN; exact absurd hN (Nat.not_lt_zero _)
    | succ N ih =>
      intro q k f1 H locs hN hq ha hb2 hP hD hS ls hl
      refine lv_iload_n hx hb dX1_addNumber_4 rfl (lv_at hl 2 rfl) ?_
      refine lv_if_lt (tgt := 25) hx hb dX1_addNumber_5 (by decide) (fun c_5 => ?_) (fun c_5 => ?_)
      · have hq0 := oc_pred_neg (by omega) c_5
        obtain rfl : w = k := by omega
        have hP9 := hP.sub (ws' := [(h0, .inr (2, [.ref h1, .int (nI (n + w))])), (h1, .inl (cy 0, 70, .inl f1))]) [0, 1] rfl
        have hD9 := hD.sub (ws' := [(h0, .inr (2, [.ref h1, .int (nI (n + w))])), (h1, .inl (cy 0, 70, .inl f1))]) [0, 1] (by decide) rfl
        exact W.vret hx hb hr (fun t ht hW => ⟨⟨f1, rfl, ⟨ha, hb2⟩, by rw [ht]; exact hP9, hD9⟩, hS.F ht⟩) hS.2.2 dX1_addNumber_25
      · obtain ⟨z, rfl⟩ := oc_pred_ok c_5
        refine lv_aload_n hx hb dX1_addNumber_8 rfl (lv_at hl 0 rfl) ?_
        refine lv_iload_n hx hb dX1_addNumber_9 rfl (lv_at hl 1 rfl) ?_
        refine lv_bipush (v := 8) hx hb dX1_addNumber_10 (by decide) ?_
        refine lv_iload_n hx hb dX1_addNumber_12 rfl (lv_at hl 2 rfl) ?_
        refine lv_imul hx hb dX1_addNumber_13 ?_
        refine lv_topi (fun x_13 ex_13 => ?_)
        obtain rfl : x_13 = nI (8 * z) := by rw [ex_13]; exact oc_8 z
        refine lv_iushr (v := (x.toUInt32 >>> ((nI (8 * z)).toUInt32 &&& Int32.toUInt32 31)).toInt32) hx hb dX1_addNumber_14 rfl ?_
        refine lv_topi (fun x_14 ex_14 => ?_)
        obtain rfl : x_14 = oc_dig x z := by rw [ex_14]; rfl
        have hPc := hP.sub (ws' := [(h0, .inr (2, [.ref h1, .int (nI (n + k))])), (h1, .inl (cy 0, 70, .inl f1))]) [0, 1] rfl
        have hDc := hD.sub (ws' := [(h0, .inr (2, [.ref h1, .int (nI (n + k))])), (h1, .inl (cy 0, 70, .inl f1))]) [0, 1] (by decide) rfl
        have hFc := va_free (wc := [(h0, .inr (2, [.ref h1, .int (nI (n + k))])), (h1, .inl (cy 0, 70, .inl f1))]) hD hS hA [0, 1] rfl
        refine va_calli (va_runV (As := [.int (oc_dig x z)]) (rest := []) ⟨hx, hb, hml, hown, hts⟩ (c_X1_add l D cy H.size h0 h1 f1 (n + k) (oc_dig x z) (by omega)) (cwV 1 hts gX1_addNumber_X1_add rfl rfl rfl (by decide +kernel) ⟨Nat.le_of_ble_eq_true rfl, Nat.le_of_ble_eq_true rfl⟩) (pv_V (ci := 2) (q := (RX1, TX1, 2)) hkk hPc hDc rfl rfl rfl) rfl rfl hl.1 rfl (lv_room (Nat.le_of_ble_eq_true rfl)) dX1_addNumber_15 ⟨Nat.le_of_ble_eq_true rfl, Nat.le_of_ble_eq_true rfl⟩) hS (fun q _ h => hFc q h) hFc (fun r_15 u t H1 locs ht hvm hw hB hz1 hk1 hS => ?_)
        obtain ⟨f2_15, n2_15⟩ := u
        obtain ⟨hP1, hD1⟩ := hB
        rw [ht] at hP1
        try dsimp only at hw hP1 hD1
        obtain ⟨hP, hD⟩ := va_join (wr := []) (w1 := [(h0, .inr (2, [.ref h1, .int (nI n2_15)])), (h1, .inl (cy 0, 70, .inl f2_15))]) hP hD [0, 1] [] rfl rfl (by decide) (by decide) hk1 hFc hP1 hD1
        clear hPc hDc hFc hP1 hD1 hz1 hk1
        generalize H1 = H at hP hS ⊢
        have hP : va_P D vwCl [(h0, .inr (2, [.ref h1, .int (nI n2_15)])), (h1, .inl (cy 0, 70, .inl f2_15))] H := hP
        have hD : va_D A [(h0, .inr (2, [.ref h1, .int (nI n2_15)])), (h1, .inl (cy 0, 70, .inl f2_15))] := hD
        have hw_15 := hw
        obtain ⟨rfl, rfl, rfl⟩ := oc_add_lt hw_15 (by omega)
        refine lv_pop hx hb dX1_addNumber_18 rfl ?_
        refine lv_iinc (v := nI z - 1) (lv' := [(3, .int (nI z - 1)), (0, .ref h0), (1, .int x)]) hx hb dX1_addNumber_19 hl (k := 2) rfl (oc_pp z) (by decide) rfl (fun ls hl => ?_)
        refine lv_goto (tgt := 4) hx hb dX1_addNumber_22 (by decide) ?_
        exact ih z (k + 1) (upd f1 (n + k) (oc_dig x z).toInt8.toInt32) _ _ (by omega) (by omega) (fun j hj => (pk_un (by omega)).trans (ha j hj)) (oc_an_step (by omega) hb2) hP hD hS _ (lv_sub hl [1, 2, 0] rfl)
  exact cut_4 _ w 0 f _ _ (Nat.lt_succ_self _) (by omega) (fun _ _ => rfl) (fun j hj => absurd hj (Nat.not_lt_zero j)) hP hD hS _ (lv_sub hl [1, 2, 0] rfl)


set_option maxHeartbeats 4000000 in
set_option maxRecDepth 100000 in
/-- Octets.numberAt(place, octets) -/
theorem c_X1_numberAt (l : Launch) (D : va_G) (cy : Nat → ClassId) (sz : Nat) (h0 : Nat) (h1 : Nat) (f : Nat → Int32) (n : Nat) (i : Int32) (w : Nat) (hn : n ≤ 70) (hm : w ≤ 8) : Met l yX1_numberAt wsX1_numberAt ({ frames := 2, cells := 0, slots := 0, locals := 42 } : Room) (pre1 D cy [.ref h0, .int i, .int (nI w)] [(h0, .inr (2, [.ref h1, .int (nI n)])), (h1, .inl (cy 0, 70, .inl f))] sz) (va_Qi (fun (r : Int32) (u : Unit) => r = oc_num f n i w) (fun u t => va_P D vwCl [(h0, .inr (2, [.ref h1, .int (nI n)])), (h1, .inl (cy 0, 70, .inl f))] t.heap ∧ va_D (va_A [(h0, .inr (2, [.ref h1, .int (nI n)])), (h1, .inl (cy 0, 70, .inl f))] sz) [(h0, .inr (2, [.ref h1, .int (nI n)])), (h1, .inl (cy 0, 70, .inl f))]) (va_A [(h0, .inr (2, [.ref h1, .int (nI n)])), (h1, .inl (cy 0, 70, .inl f))] sz)) 0 0 (va_A [(h0, .inr (2, [.ref h1, .int (nI n)])), (h1, .inl (cy 0, 70, .inl f))] sz) := by
  refine Met.ofW (cc := cX1_numberAt) (maxL := 5) (ret := (some .int)) (by decide) rfl ?_
  intro p e s m args below meth c s₁ B hml hv
  obtain ⟨rfl, hsz, hP, hkk, hD0⟩ := hv
  have hx := B.exec
  have hb := B.bytes
  have hr := B.returns
  have hts := atoms_spec (ws := wsX1_numberAt) B.pre
  have hown : s.vm.findClass RX1 = some m.cls := findClass_of_methodNamed B.named
  have hlocks := B.notSynchronized
  have hin : meth.name = _ := (name_of_methodNamed B.named B.method).1
  have hK := hkk.1
  subst hsz
  have hD := hD0.self (sz := s.heap.size)
  generalize hAe : va_A [(h0, .inr (2, [.ref h1, .int (nI n)])), (h1, .inl (cy 0, 70, .inl f))] s.heap.size = A at hD ⊢
  have hA : ∀ q : Nat, s.heap.size ≤ q → A q := fun q h => by rw [← hAe]; exact Or.inr h
  have hS : va_S A s.heap s.heap [] := va_S.rf
  have hP : va_P D vwCl [(h0, .inr (2, [.ref h1, .int (nI n)])), (h1, .inl (cy 0, 70, .inl f))] s.heap := hP
  have hl := lv_entry ([.ref h0, .int i, .int (nI w)]) (n := 5) (Nat.le_of_ble_eq_true rfl)
  rw [lg_entry_eq]
  generalize (lg_sl ([.ref h0, .int i, .int (nI w)]) ++ List.replicate (5 - (lg_sl ([.ref h0, .int i, .int (nI w)])).length) Slot.unset).toArray = ls at hl ⊢
  have hl : lv_has ls 5 [(0, .ref h0), (1, .int i), (2, .int (nI w))] := hl
  refine lv_iconst (v := 0) hx hb dX1_numberAt_0 (by decide) ?_
  refine lv_topi (fun x_0 ex_0 => ?_)
  obtain rfl : x_0 = oc_num f n i 0 := by rw [ex_0]; rfl
  refine lv_istore_n (lv' := [(3, .int (oc_num f n i 0)), (0, .ref h0), (1, .int i), (2, .int (nI w))]) hx hb dX1_numberAt_1 rfl hl (by decide) rfl (fun ls hl => ?_)
  refine lv_iconst (v := 0) hx hb dX1_numberAt_2 (by decide) ?_
  refine lv_topi (fun x_2 ex_2 => ?_)
  obtain rfl : x_2 = nI 0 := by rw [ex_2]; exact nI_0.symm
  refine lv_istore (lv' := [(4, .int (nI 0)), (3, .int (oc_num f n i 0)), (0, .ref h0), (1, .int i), (2, .int (nI w))]) hx hb dX1_numberAt_3 hl (by decide) rfl (fun ls hl => ?_)
  have cut_5 : ∀ (N : Nat) (k : Nat) (H : Heap) (locs : List Loc), w - k < N → k ≤ w → va_P D vwCl [(h0, .inr (2, [.ref h1, .int (nI n)])), (h1, .inl (cy 0, 70, .inl f))] H → va_D A [(h0, .inr (2, [.ref h1, .int (nI n)])), (h1, .inl (cy 0, 70, .inl f))] → va_S A s.heap H locs → ∀ (ls : Array Slot), lv_has ls 5 [(0, .ref h0), (1, .int i), (2, .int (nI w)), (3, .int (oc_num f n i k)), (4, .int (nI k))] → W p l e (headSpec wsX1_numberAt ({ frames := 2, cells := 0, slots := 0, locals := 42 } : Room)).room s m [.ref h0, .int i, .int (nI w)].toArray below meth c H locs 0 0 (MQ below (va_Qi (fun (r : Int32) (u : Unit) => r = oc_num f n i w) (fun u t => va_P D vwCl [(h0, .inr (2, [.ref h1, .int (nI n)])), (h1, .inl (cy 0, 70, .inl f))] t.heap ∧ va_D A [(h0, .inr (2, [.ref h1, .int (nI n)])), (h1, .inl (cy 0, 70, .inl f))]) A) [.ref h0, .int i, .int (nI w)].toArray s 0 0 A) (F0 m 5 ls []) := by
    intro N
    induction N with
    | zero => intro k H locs hN; exact absurd hN (Nat.not_lt_zero _)
    | succ N ih =>
      intro k H locs hN hk hP hD hS ls hl
      refine lv_iload hx hb dX1_numberAt_5 (lv_at hl 4 rfl) ?_
      refine lv_iload_n hx hb dX1_numberAt_7 rfl (lv_at hl 2 rfl) ?_
      refine lv_icmp_ge (tgt := 31) hx hb dX1_numberAt_8 (by decide) (fun c_8 => ?_) (fun c_8 => ?_)
      · obtain rfl : w = k := Nat.le_antisymm ((oc_ltN (by omega) (by omega)).mp c_8) hk
        refine lv_iload_n hx hb dX1_numberAt_31 rfl (lv_at hl 3 rfl) ?_
        have hP9 := hP.sub (ws' := [(h0, .inr (2, [.ref h1, .int (nI n)])), (h1, .inl (cy 0, 70, .inl f))]) [0, 1] rfl
        have hD9 := hD.sub (ws' := [(h0, .inr (2, [.ref h1, .int (nI n)])), (h1, .inl (cy 0, 70, .inl f))]) [0, 1] (by decide) rfl
        exact W.iret (v := oc_num f n i w) hx hb hr (fun t ht hW => ⟨⟨oc_num f n i w, (), rfl, rfl, by rw [ht]; exact hP9, hD9⟩, hS.F ht⟩) hS.2.2 dX1_numberAt_32
      · have hkm : k < w := Nat.not_le.mp fun q => c_8 ((oc_ltN (by omega) (by omega)).mpr q)
        refine lv_iload_n hx hb dX1_numberAt_11 rfl (lv_at hl 3 rfl) ?_
        refine lv_bipush (v := 8) hx hb dX1_numberAt_12 (by decide) ?_
        refine lv_ishl hx hb dX1_numberAt_14 ?_
        refine lv_aload_n hx hb dX1_numberAt_15 rfl (lv_at hl 0 rfl) ?_
        refine lv_iload_n hx hb dX1_numberAt_16 rfl (lv_at hl 1 rfl) ?_
        refine lv_iload hx hb dX1_numberAt_17 (lv_at hl 4 rfl) ?_
        refine lv_iadd hx hb dX1_numberAt_19 ?_
        have hPc := hP.sub (ws' := [(h0, .inr (2, [.ref h1, .int (nI n)])), (h1, .inl (cy 0, 70, .inl f))]) [0, 1] rfl
        have hDc := hD.sub (ws' := [(h0, .inr (2, [.ref h1, .int (nI n)])), (h1, .inl (cy 0, 70, .inl f))]) [0, 1] (by decide) rfl
        have hFc := va_free (wc := [(h0, .inr (2, [.ref h1, .int (nI n)])), (h1, .inl (cy 0, 70, .inl f))]) hD hS hA [0, 1] rfl
        refine va_calli (va_runV (As := [.int (i + (nI k))]) (rest := [.int ((oc_num f n i k) <<< (8 &&& 31))]) ⟨hx, hb, hml, hown, hts⟩ (c_X1_get l D cy H.size h0 h1 f n (i + (nI k)) (by first | assumption | omega)) (cwV 1 hts gX1_numberAt_X1_get rfl rfl rfl (by decide +kernel) ⟨Nat.le_of_ble_eq_true rfl, Nat.le_of_ble_eq_true rfl⟩) (pv_V (ci := 2) (q := (RX1, TX1, 2)) hkk hPc hDc rfl rfl rfl) rfl rfl hl.1 rfl (lv_room (Nat.le_of_ble_eq_true rfl)) dX1_numberAt_20 ⟨Nat.le_of_ble_eq_true rfl, Nat.le_of_ble_eq_true rfl⟩) hS (fun q _ h => hFc q h) hFc (fun r_20 u t H1 locs ht hvm hw hB hz1 hk1 hS => ?_)
        obtain ⟨hP1, hD1⟩ := hB
        rw [ht] at hP1
        try dsimp only at hw hP1 hD1
        obtain ⟨hP, hD⟩ := va_join (wr := []) (w1 := [(h0, .inr (2, [.ref h1, .int (nI n)])), (h1, .inl (cy 0, 70, .inl f))]) hP hD [0, 1] [] rfl rfl (by decide) (by decide) hk1 hFc hP1 hD1
        clear hPc hDc hFc hP1 hD1 hz1 hk1
        generalize H1 = H at hP hS ⊢
        have hP : va_P D vwCl [(h0, .inr (2, [.ref h1, .int (nI n)])), (h1, .inl (cy 0, 70, .inl f))] H := hP
        have hD : va_D A [(h0, .inr (2, [.ref h1, .int (nI n)])), (h1, .inl (cy 0, 70, .inl f))] := hD
        obtain rfl := hw
        refine lv_ior hx hb dX1_numberAt_23 ?_
        refine lv_topi (fun x_23 ex_23 => ?_)
        obtain rfl : x_23 = oc_num f n i (k + 1) := by rw [ex_23]; rfl
        refine lv_istore_n (lv' := [(3, .int (oc_num f n i (k + 1))), (0, .ref h0), (1, .int i), (2, .int (nI w)), (4, .int (nI k))]) hx hb dX1_numberAt_24 rfl hl (by decide) rfl (fun ls hl => ?_)
        refine lv_iinc (v := nI (k + 1)) (lv' := [(4, .int (nI (k + 1))), (3, .int (oc_num f n i (k + 1))), (0, .ref h0), (1, .int i), (2, .int (nI w))]) hx hb dX1_numberAt_25 hl (k := 4) rfl (nI_1 k) (by decide) rfl (fun ls hl => ?_)
        refine lv_goto (tgt := 5) hx hb dX1_numberAt_28 (by decide) ?_
        exact ih (k + 1) _ _ (by omega) (by omega) hP hD hS _ (lv_sub hl [2, 3, 4, 1, 0] rfl)
  exact cut_5 _ 0 _ _ (Nat.lt_succ_self _) (Nat.zero_le _) hP hD hS _ (lv_sub hl [2, 3, 4, 1, 0] rfl)
end
section
/-! rows of bits and masks, out of the kit's paste text -/
theorem s_l : ∀ n, n < 32 → ((nI n &&& 31).toBitVec.smod 32).toNat = n := by decide +kernel
theorem s_u : ∀ n, n < 32 → (((nI n).toUInt32 &&& Int32.toUInt32 31).toBitVec % 32).toNat = n := by decide +kernel
theorem nx_and (a b : Nat) : nI a &&& nI b = nI (a &&& b) := by
  apply Int32.toBitVec_inj.1
  show BitVec.ofNat 32 a &&& BitVec.ofNat 32 b = BitVec.ofNat 32 (a &&& b)
  apply BitVec.eq_of_getLsbD_eq
  intro i hi
  simp [hi]
theorem nx_xor (a b : Nat) : nI a ^^^ nI b = nI (a ^^^ b) := by
  apply Int32.toBitVec_inj.1
  show BitVec.ofNat 32 a ^^^ BitVec.ofNat 32 b = BitVec.ofNat 32 (a ^^^ b)
  apply BitVec.eq_of_getLsbD_eq
  intro i hi
  simp [hi]
theorem bp_b (x : Int32) : x.toInt8.toInt32 &&& 255 = x &&& 255 := by
  apply Int32.toBitVec_inj.mp
  rw [Int32.toBitVec_and, Int32.toBitVec_and, Int8.toBitVec_toInt32, Int32.toBitVec_toInt8]
  apply BitVec.eq_of_getLsbD_eq
  intro i hi
  rw [BitVec.getLsbD_and, BitVec.getLsbD_and]
  have hm : ∀ i < 32, 8 ≤ i → (255 : Int32).toBitVec.getLsbD i = false := by decide
  rcases Nat.lt_or_ge i 8 with z | z
  · rw [BitVec.getLsbD_signExtend, BitVec.getLsbD_signExtend, if_pos z, if_pos hi]
    simp only [z, hi, decide_true, Bool.true_and]
  · rw [hm i hi z]; simp
theorem wb_tb (n : Nat) : (lN n).toBitVec = BitVec.ofNat 64 n := rfl
theorem wb_inj {a b : Int64} (h : a.toBitVec = b.toBitVec) : a = b := Int64.toBitVec_inj.mp h
theorem wb_tn {n : Nat} (h : n < 2 ^ 64) : (lN n).toBitVec.toNat = n := by rw [wb_tb, BitVec.toNat_ofNat, Nat.mod_eq_of_lt h]
theorem wb_c : ∀ k, k < 64 → ((nI k).toInt64 &&& 63) = lN k := by decide +kernel
theorem wb_cu : ∀ k, k < 64 → ((nI k).toInt64.toUInt64 &&& Int64.toUInt64 63) = UInt64.ofNat k := by decide +kernel
theorem wb_sm : ∀ k, k < 64 → (BitVec.ofNat 64 k).smod 64 = BitVec.ofNat 64 k := by decide +kernel
theorem wb_lt2 {a b : Nat} (h : a < b) : 2 ^ a < 2 ^ b := Nat.pow_lt_pow_right (by decide) h
theorem wb_shl (n : Nat) {k : Nat} (hk : k < 64) : lN n <<< ((nI k).toInt64 &&& 63) = lN (n * 2 ^ k) := by
  rw [wb_c k hk]
  apply wb_inj
  rw [Int64.toBitVec_shiftLeft, wb_tb, wb_tb, wb_tb, wb_sm k hk]
  apply BitVec.eq_of_toNat_eq
  rw [BitVec.shiftLeft_eq', BitVec.toNat_shiftLeft, BitVec.toNat_ofNat, BitVec.toNat_ofNat, BitVec.toNat_ofNat, Nat.mod_eq_of_lt (show k < 2 ^ 64 by omega), Nat.shiftLeft_eq, Nat.mul_mod, Nat.mod_mod, ← Nat.mul_mod]
theorem wb_and {a b : Nat} (ha : a < 2 ^ 64) (hb : b < 2 ^ 64) : lN a &&& lN b = lN (a &&& b) := by
  apply wb_inj
  rw [Int64.toBitVec_and, wb_tb, wb_tb, wb_tb]
  apply BitVec.eq_of_toNat_eq
  rw [BitVec.toNat_and, BitVec.toNat_ofNat, BitVec.toNat_ofNat, BitVec.toNat_ofNat, Nat.mod_eq_of_lt ha, Nat.mod_eq_of_lt hb, Nat.mod_eq_of_lt (Nat.and_lt_two_pow _ hb)]
theorem wb_mask {n k : Nat} (hn : n < 2 ^ 64) (hk : k < 64) : lN n &&& lN (2 ^ k - 1) = lN (n % 2 ^ k) := by
  rw [wb_and hn (by have := wb_lt2 hk; omega), Nat.and_two_pow_sub_one_eq_mod]
theorem pf_lI {a : Nat} (h : a < 2 ^ 63) : (lN a).toInt = (a : Int) := lg_ofNat_toInt h
theorem pf_shr {a d : Nat} {D : Int64} (hD : (D.toBitVec.smod 64).toNat = d) (h : a < 2 ^ 62) : lN a >>> D = lN (a / 2 ^ d) := by
  have hd : a / 2 ^ d ≤ a := Nat.div_le_self _ _
  apply Int64.toInt_inj.mp
  have e : (lN a >>> D).toInt = (lN a).toInt >>> d := by
    rw [← hD]
    exact BitVec.toInt_sshiftRight ..
  rw [e, Int.shiftRight_eq_div_pow, pf_lI (by omega), pf_lI (by omega)]
  rfl
theorem lN_bv (n : Nat) : (lN n).toBitVec = BitVec.ofNat 64 n := rfl
theorem lN_xor (a b : Nat) : lN a ^^^ lN b = lN (a ^^^ b) := by
  apply Int64.toBitVec_inj.mp; rw [Int64.toBitVec_xor, lN_bv, lN_bv, lN_bv]; apply BitVec.eq_of_getLsbD_eq; intro i hi; simp [BitVec.getLsbD_ofNat, Nat.testBit_xor, hi]
end
section
/-! Profile: the check, as a register of natural numbers. -/
/-- one bit: the register r of B bits, the shape S -/
def cb (B S r b : Nat) : Nat := if r / 2 ^ (B - 1) = b then r * 2 % 2 ^ B else (r * 2 % 2 ^ B) ^^^ S
/-- the k lowest bits of an octet, the highest first -/
def co (B S o : Nat) : Nat → Nat → Nat
  | 0, r => r
  | k + 1, r => co B S o k (cb B S r (o / 2 ^ k % 2))
def cs (B S : Nat) (g : Nat → Nat) (r : Nat) : Nat → Nat
  | 0 => r
  | k + 1 => co B S (g k) 8 (cs B S g r k)
def ck (B S G E d : Nat) (g : Nat → Nat) (w : Nat) : Nat := cs B S g (co B S d 8 (co B S (d / 256) 8 G)) w ^^^ E
theorem cs_0 {B S r : Nat} {g : Nat → Nat} : cs B S g r 0 = r := rfl
theorem cs_1 {B S r k : Nat} {g : Nat → Nat} : cs B S g r (k + 1) = co B S (g k) 8 (cs B S g r k) := rfl
theorem co_0 {B S o r : Nat} : co B S o 0 r = r := rfl
def isB (B : Nat) : Prop := B = 8 ∨ B = 16 ∨ B = 32
theorem cb_lt {B S r b : Nat} (hS : S < 2 ^ B) : cb B S r b < 2 ^ B := by
  unfold cb
  have h : r * 2 % 2 ^ B < 2 ^ B := Nat.mod_lt _ (Nat.two_pow_pos B)
  split
  · exact h
  · exact Nat.xor_lt_two_pow h hS
theorem co_lt {B S o : Nat} (hS : S < 2 ^ B) : ∀ (k r : Nat), r < 2 ^ B → co B S o k r < 2 ^ B
  | 0, _, h => h
  | k + 1, _, _ => co_lt hS k _ (cb_lt hS)
theorem cs_lt {B S r : Nat} {g : Nat → Nat} (hS : S < 2 ^ B) (hr : r < 2 ^ B) : ∀ k, cs B S g r k < 2 ^ B
  | 0 => hr
  | k + 1 => co_lt hS 8 _ (cs_lt hS hr k)
theorem ck_lt {B S G E d w : Nat} {g : Nat → Nat} (hS : S < 2 ^ B) (hG : G < 2 ^ B) (hE : E < 2 ^ B) : ck B S G E d g w < 2 ^ B :=
  Nat.xor_lt_two_pow (cs_lt hS (co_lt hS 8 _ (co_lt hS 8 _ hG)) w) hE
theorem isB_32 {B r : Nat} (hB : isB B) (h : r < 2 ^ B) : r < 2 ^ 32 := by
  rcases hB with rfl | rfl | rfl <;> omega
theorem sh_mask {B : Nat} (hB : isB B) : ((-1 : Int32).toUInt32 >>> ((32 - nI B).toUInt32 &&& Int32.toUInt32 31)).toInt32 = nI (2 ^ B - 1) := by
  rcases hB with rfl | rfl | rfl <;> decide
theorem sh_hi {B r : Nat} (hB : isB B) (h : r < 2 ^ B) : ((nI r).toUInt32 >>> ((nI B - 1).toUInt32 &&& Int32.toUInt32 31)).toInt32 = nI (r / 2 ^ (B - 1)) := by
  have h2 := isB_32 hB h
  rcases hB with rfl | rfl | rfl
  · exact pk_ushrN h2 _ 7 (by decide)
  · exact pk_ushrN h2 _ 15 (by decide)
  · exact pk_ushrN h2 _ 31 (by decide)
theorem sh_bit {o z : Nat} (ho : o < 2 ^ 31) (hz : z < 8) : (nI o >>> ((nI (z + 1) - 1) &&& 31)) &&& 1 = nI (o / 2 ^ z % 2) := by
  rw [nI_pred, pk_shrN ho _ z (s_l z (by omega))]
  exact pk_andN (Nat.lt_of_le_of_lt (Nat.div_le_self _ _) (by omega)) 1 (by decide)
theorem sh_dbl {B r : Nat} (hB : isB B) (h : r < 2 ^ B) : (nI r <<< ((1 : Int32) &&& 31)) &&& nI (2 ^ B - 1) = nI (r * 2 % 2 ^ B) := by
  have h2 := isB_32 hB h
  have hm : (nI (2 ^ B - 1)).toBitVec.toNat = 2 ^ B - 1 := pk_tn (by rcases hB with rfl | rfl | rfl <;> decide)
  rw [pk_and _ B hm, pk_shl _ _ 1 (by decide), pk_tn h2]
  congr 1
  rcases hB with rfl | rfl | rfl <;> omega
theorem sh_hi2 {B r : Nat} (hB : isB B) (h : r < 2 ^ B) : r / 2 ^ (B - 1) < 2 := by
  rcases hB with rfl | rfl | rfl <;> omega
theorem sh_eq {B r z o : Nat} (hB : isB B) (h : r < 2 ^ B) : nI (r / 2 ^ (B - 1)) = nI (o / 2 ^ z % 2) ↔ r / 2 ^ (B - 1) = o / 2 ^ z % 2 :=
  nI_eq (by have := sh_hi2 hB h; omega) (by omega)
theorem co_t {B S r z o : Nat} (h : r / 2 ^ (B - 1) = o / 2 ^ z % 2) : co B S o z (r * 2 % 2 ^ B) = co B S o (z + 1) r := by
  show _ = co B S o z (cb B S r (o / 2 ^ z % 2))
  unfold cb; rw [if_pos h]
theorem co_f {B S r z o : Nat} (h : ¬ r / 2 ^ (B - 1) = o / 2 ^ z % 2) : co B S o z ((r * 2 % 2 ^ B) ^^^ S) = co B S o (z + 1) r := by
  show _ = co B S o z (cb B S r (o / 2 ^ z % 2))
  unfold cb; rw [if_neg h]
theorem sh_8 {d : Nat} (h : d < 65536) : nI d >>> ((8 : Int32) &&& 31) = nI (d / 256) := pk_shrN (by omega) _ 8 (by decide)
theorem sh_3 {d : Nat} (h : d ≤ 32) : nI d >>> ((3 : Int32) &&& 31) = nI (d / 8) := pk_shrN (by omega) _ 3 (by decide)
/-- what a row's octets are, as numbers -/
def oc_is (f : Nat → Int32) (n : Nat) (g : Nat → Nat) : Prop := ∀ j, j < n → f j = sb_b (g j) ∧ g j < 256
theorem oc_get_is {f : Nat → Int32} {n j : Nat} {g : Nat → Nat} (h : oc_is f n g) (hj : j < n) (hn : n ≤ 70) : oc_get f n (nI j) = nI (g j) := by
  obtain ⟨h1, h2⟩ := h j hj
  unfold oc_get
  rw [nI_toInt (by omega), if_pos (by omega), nI_clamp (by omega), h1]
  exact (sb_byte _ h2).1
/-- Math.floorMod as its code has it -/
def fm (x y : Int32) : Int32 := if 0 ≤ x ^^^ y then x - x / y * y else if x - x / y * y = 0 then x - x / y * y else (x - x / y * y) + y
theorem fm_pos {a b : Nat} (ha : a < 2 ^ 31) (h0 : 0 < b) (hb : b < 2 ^ 31) : fm (nI a) (nI b) = nI (a % b) := by
  unfold fm
  rw [pk_rem ha h0 hb, nx_xor, if_pos]
  exact nI_pos' (Nat.xor_lt_two_pow ha hb)
theorem fm_neg {a b w : Nat} (hab : a < b) (hw : b - a < w) (hb : b < 2 ^ 30) (hw2 : w < 2 ^ 30) : fm (nI a - nI b) (nI w) = nI (a + w - b) := by
  have e1 : (nI a - nI b).toInt = (a : Int) - b := pk_sub_toInt (by omega) (by omega)
  have ew : (nI w).toInt = (w : Int) := nI_toInt (by omega)
  have e2 : (nI a - nI b) / nI w = 0 := by
    apply Int32.toInt_inj.mp
    rw [Int32.toInt_div, e1, ew]
    have : ((a : Int) - b).tdiv w = 0 := by
      rw [show ((a : Int) - b) = -((b - a : Nat) : Int) by omega, Int.neg_tdiv]
      have : ((b - a : Nat) : Int).tdiv w = 0 := Int.tdiv_eq_zero_of_lt (by omega) (by omega)
      rw [this]; rfl
    rw [this]; rfl
  have e3 : nI a - nI b - (nI a - nI b) / nI w * nI w = nI a - nI b := by
    rw [e2, Int32.zero_mul, Int32.sub_zero]
  unfold fm
  rw [e3]
  have hx : ¬ 0 ≤ (nI a - nI b) ^^^ nI w := by
    rw [Int32.le_iff_toInt_le]
    have hmsb : ((nI a - nI b) ^^^ nI w).toBitVec.msb = true := by
      rw [Int32.toBitVec_xor, BitVec.msb_xor, BitVec.msb_eq_toInt, BitVec.msb_eq_toInt]
      have q1 : (nI a - nI b).toBitVec.toInt = (a : Int) - b := e1
      have q2 : (nI w).toBitVec.toInt = (w : Int) := ew
      rw [q1, q2, decide_eq_true (by omega), decide_eq_false (by omega)]; rfl
    rw [BitVec.msb_eq_toInt] at hmsb
    have h3 : ((nI a - nI b) ^^^ nI w).toInt < 0 := of_decide_eq_true hmsb
    simpa using h3
  have h0 : ¬ nI a - nI b = 0 := fun q => by
    have := congrArg Int32.toInt q
    rw [e1] at this
    simp at this
    omega
  rw [if_neg hx, if_neg h0]
  apply Int32.toInt_inj.mp
  rw [Int32.toInt_add, e1, ew, nI_toInt (by omega)]
  rw [show ((a : Int) - b + w) = ((a + w - b : Nat) : Int) by omega]
  exact Int.bmod_eq_of_le (by omega) (by omega)

/-- a contract out of a walk, of a method of a class with entries of its own (java.lang.Math) -/
theorem mt_ofF {l : Launch} {y : MethodName} {ws ws' : List Cond} {rm : Room} {Pc : Array Value → State → Prop} {Qc : Array Value → State → Outcome → State → Prop} {mc ms : Nat} {free : Addr → Prop} {cc : ByteArray} {maxL : Nat} {ret : Option FieldType}
    (hy : plainFor y = true) (hw : ws = Cond.code y cc maxL ret :: ws')
    (body : ∀ p e s m args below meth c s₁, BodyLoose p l y (headSpec ws rm) cc maxL ret e s m args below meth c s₁ → c.maxLocals = maxL → Pc args s →
      W p l e (headSpec ws rm).room s m args below meth c s.heap [] 0 0 (MQ below Qc args s mc ms free) (entryFrame m args maxL)) : Met l y ws rm Pc Qc mc ms free := by
  refine MetFree.of_bodySF (code := cc) (maxLocals := maxL) (ret := ret) hy ?_ ?_
  · intro args s m h hn
    obtain ⟨meth, c, h1, h2, h3, h4, h5, h6, -, -⟩ := Cond.code_spec hn (atoms_spec (ws := ws) h _ (by rw [hw]; exact List.mem_cons_self))
    exact ⟨meth, c, h1, h2, h3, h4, h5, h6⟩
  · intro p e s m args below meth c s₁ B hml hP _
    have hh0 : s₁.heap = s.heap := by rw [B.state]; rfl
    obtain ⟨t, a1, o, b1, b2, b3⟩ := body p e s m args below meth c s₁ B hml hP s₁ hh0 (Stand.of_body B)
    exact ⟨t, o, a1, b1, b2, ⟨b3.1, b3.2⟩⟩
end
section

set_option maxHeartbeats 4000000 in
set_option maxRecDepth 100000 in
/-- Math.floorMod -/
theorem c_J9_floorMod_7cf53 (l : Launch) (D : va_G) (cy : Nat → ClassId) (sz : Nat) (a : Int32) (b : Int32) (hb0 : ¬ b = 0) : Met l yJ9_floorMod_7cf53 wsJ9_floorMod_7cf53 ({ frames := 0, cells := 0, slots := 0, locals := 0 } : Room) (pre1 D cy [.int a, .int b] [] sz) (va_Qi (fun (r : Int32) (u : Unit) => r = fm a b) (fun u t => va_P D vwCl [] t.heap ∧ va_D (va_A [] sz) []) (va_A [] sz)) 0 0 (va_A [] sz) := by
  refine mt_ofF (cc := cJ9_floorMod_7cf53) (maxL := 3) (ret := (some .int)) (by decide +kernel) rfl ?_
  intro p e s m args below meth c s₁ B hml hv
  obtain ⟨rfl, hsz, hP, hkk, hD0⟩ := hv
  have hx := B.exec
  have hb := B.bytes
  have hr := B.returns
  have hts := atoms_spec (ws := wsJ9_floorMod_7cf53) B.pre
  have hown : s.vm.findClass RJ9 = some m.cls := findClass_of_methodNamed B.named
  have hlocks := B.notSynchronized
  have hin : meth.name = _ := (name_of_methodNamed B.named B.method).1
  have hK := hkk.1
  subst hsz
  have hD := hD0.self (sz := s.heap.size)
  generalize hAe : va_A [] s.heap.size = A at hD ⊢
  have hA : ∀ q : Nat, s.heap.size ≤ q → A q := fun q h => by rw [← hAe]; exact Or.inr h
  have hS : va_S A s.heap s.heap [] := va_S.rf
  have hP : va_P D vwCl [] s.heap := hP
  have hl := lv_entry ([.int a, .int b]) (n := 3) (Nat.le_of_ble_eq_true rfl)
  rw [lg_entry_eq]
  generalize (lg_sl ([.int a, .int b]) ++ List.replicate (3 - (lg_sl ([.int a, .int b])).length) Slot.unset).toArray = ls at hl ⊢
  have hl : lv_has ls 3 [(0, .int a), (1, .int b)] := hl
  refine lv_iload_n hx hb dJ9_floorMod_7cf53_0 rfl (lv_at hl 0 rfl) ?_
  refine lv_iload_n hx hb dJ9_floorMod_7cf53_1 rfl (lv_at hl 1 rfl) ?_
  refine lv_irem hx hb dJ9_floorMod_7cf53_2 hb0 ?_
  refine lv_istore_n (lv' := [(2, .int (a - a / b * b)), (0, .int a), (1, .int b)]) hx hb dJ9_floorMod_7cf53_3 rfl hl (by decide) rfl (fun ls hl => ?_)
  refine lv_iload_n hx hb dJ9_floorMod_7cf53_4 rfl (lv_at hl 1 rfl) ?_
  refine lv_iload_n hx hb dJ9_floorMod_7cf53_5 rfl (lv_at hl 2 rfl) ?_
  refine lv_ixor hx hb dJ9_floorMod_7cf53_6 ?_
  refine lv_if_ge (tgt := 18) hx hb dJ9_floorMod_7cf53_7 (by decide) (fun c_7 => ?_) (fun c_7 => ?_)
  · refine lv_iload_n hx hb dJ9_floorMod_7cf53_18 rfl (lv_at hl 0 rfl) ?_
    have hP9 := hP.sub (ws' := []) [] rfl
    have hD9 := hD.sub (ws' := []) [] (by decide) rfl
    exact W.iret (v := a - a / b * b) hx hb hr (fun t ht hW => ⟨⟨a - a / b * b, (), rfl, by unfold fm; rw [if_pos c_7], by rw [ht]; exact hP9, hD9⟩, hS.F ht⟩) hS.2.2 dJ9_floorMod_7cf53_19
  · refine lv_iload_n hx hb dJ9_floorMod_7cf53_10 rfl (lv_at hl 0 rfl) ?_
    refine lv_if_eq (tgt := 18) hx hb dJ9_floorMod_7cf53_11 (by decide) (fun c_11 => ?_) (fun c_11 => ?_)
    · refine lv_iload_n hx hb dJ9_floorMod_7cf53_18 rfl (lv_at hl 0 rfl) ?_
      have hP9 := hP.sub (ws' := []) [] rfl
      have hD9 := hD.sub (ws' := []) [] (by decide) rfl
      exact W.iret (v := a - a / b * b) hx hb hr (fun t ht hW => ⟨⟨a - a / b * b, (), rfl, by unfold fm; rw [if_neg c_7, if_pos c_11], by rw [ht]; exact hP9, hD9⟩, hS.F ht⟩) hS.2.2 dJ9_floorMod_7cf53_19
    · refine lv_iload_n hx hb dJ9_floorMod_7cf53_14 rfl (lv_at hl 0 rfl) ?_
      refine lv_iload_n hx hb dJ9_floorMod_7cf53_15 rfl (lv_at hl 2 rfl) ?_
      refine lv_iadd hx hb dJ9_floorMod_7cf53_16 ?_
      have hP9 := hP.sub (ws' := []) [] rfl
      have hD9 := hD.sub (ws' := []) [] (by decide) rfl
      exact W.iret (v := (a - a / b * b) + b) hx hb hr (fun t ht hW => ⟨⟨(a - a / b * b) + b, (), rfl, by unfold fm; rw [if_neg c_7, if_neg c_11], by rw [ht]; exact hP9, hD9⟩, hS.F ht⟩) hS.2.2 dJ9_floorMod_7cf53_17

theorem lk_X2_init_m3 : (.methodLink RX2 3 objectInit : Cond) ∈ wsX2_init := by decide +kernel
theorem lk_X2_init_oi : (.instanceMethod objectInit : Cond) ∈ wsX2_init := by decide +kernel
theorem lk_X2_init_oc : (.code objectInit ⟨#[0xb1]⟩ 1 none : Cond) ∈ wsX2_init := by decide +kernel
theorem iw_X2_init_X2 : ∀ w ∈ wsX20, w ∈ wsX2_init := by decide +kernel
theorem lk_X2_init_f9 : (.fieldLink RX2 9 "DataGuards$Profile" "bits" "I" : Cond) ∈ wsX2_init := by decide +kernel
theorem lk_X2_init_f15 : (.fieldLink RX2 15 "DataGuards$Profile" "shape" "I" : Cond) ∈ wsX2_init := by decide +kernel
theorem lk_X2_init_f18 : (.fieldLink RX2 18 "DataGuards$Profile" "begin" "I" : Cond) ∈ wsX2_init := by decide +kernel
theorem lk_X2_init_f21 : (.fieldLink RX2 21 "DataGuards$Profile" "end" "I" : Cond) ∈ wsX2_init := by decide +kernel
theorem lk_X2_init_f24 : (.fieldLink RX2 24 "DataGuards$Profile" "counters" "I" : Cond) ∈ wsX2_init := by decide +kernel
theorem lk_X2_init_f27 : (.fieldLink RX2 27 "DataGuards$Profile" "counterOctets" "I" : Cond) ∈ wsX2_init := by decide +kernel
set_option maxHeartbeats 4000000 in
set_option maxRecDepth 100000 in
/-- new Profile(..) -/
theorem c_X2_init (l : Launch) (D : va_G) (cy : Nat → ClassId) (sz : Nat) (h0 : Nat) (a1 : Int32) (a2 : Int32) (a3 : Int32) (a4 : Int32) (a5 : Int32) (a6 : Int32)  : Met l yX2_init wsX2_init ({ frames := 1, cells := 0, slots := 0, locals := 20 } : Room) (pre1 D cy [.ref h0, .int a1, .int a2, .int a3, .int a4, .int a5, .int a6] [(h0, .inr (3, [.int 0, .int 0, .int 0, .int 0, .int 0, .int 0]))] sz) (va_Qv (fun (u : Unit) => True) (fun u t => va_P D vwCl [(h0, .inr (3, [.int a1, .int a2, .int a3, .int a4, .int a5, .int a6]))] t.heap ∧ va_D (va_A [(h0, .inr (3, [.int 0, .int 0, .int 0, .int 0, .int 0, .int 0]))] sz) [(h0, .inr (3, [.int a1, .int a2, .int a3, .int a4, .int a5, .int a6]))]) (va_A [(h0, .inr (3, [.int 0, .int 0, .int 0, .int 0, .int 0, .int 0]))] sz)) 0 0 (va_A [(h0, .inr (3, [.int 0, .int 0, .int 0, .int 0, .int 0, .int 0]))] sz) := by
  refine Met.ofW (cc := cX2_init) (maxL := 7) (ret := none) (by decide) rfl ?_
  intro p e s m args below meth c s₁ B hml hv
  obtain ⟨rfl, hsz, hP, hkk, hD0⟩ := hv
  have hx := B.exec
  have hb := B.bytes
  have hr := B.returns
  have hts := atoms_spec (ws := wsX2_init) B.pre
  have hown : s.vm.findClass RX2 = some m.cls := findClass_of_methodNamed B.named
  have hlocks := B.notSynchronized
  have hin : meth.name = _ := (name_of_methodNamed B.named B.method).1
  have hK := hkk.1
  subst hsz
  have hD := hD0.self (sz := s.heap.size)
  generalize hAe : va_A [(h0, .inr (3, [.int 0, .int 0, .int 0, .int 0, .int 0, .int 0]))] s.heap.size = A at hD ⊢
  have hA : ∀ q : Nat, s.heap.size ≤ q → A q := fun q h => by rw [← hAe]; exact Or.inr h
  have hS : va_S A s.heap s.heap [] := va_S.rf
  have hP : va_P D vwCl [(h0, .inr (3, [.int 0, .int 0, .int 0, .int 0, .int 0, .int 0]))] s.heap := hP
  have hl := lv_entry ([.ref h0, .int a1, .int a2, .int a3, .int a4, .int a5, .int a6]) (n := 7) (Nat.le_of_ble_eq_true rfl)
  rw [lg_entry_eq]
  generalize (lg_sl ([.ref h0, .int a1, .int a2, .int a3, .int a4, .int a5, .int a6]) ++ List.replicate (7 - (lg_sl ([.ref h0, .int a1, .int a2, .int a3, .int a4, .int a5, .int a6])).length) Slot.unset).toArray = ls at hl ⊢
  have hl : lv_has ls 7 [(0, .ref h0), (1, .int a1), (2, .int a2), (3, .int a3), (4, .int a4), (5, .int a5), (6, .int a6)] := hl
  refine lv_aload_n hx hb dX2_init_0 rfl (lv_at hl 0 rfl) ?_
  refine W.objInit hx hb hown (hts _ lk_X2_init_m3) (hts _ lk_X2_init_oi) (hts _ lk_X2_init_oc) rfl (by rw [hml]; exact hl.1) rfl dX2_init_1 (Nat.le_of_ble_eq_true rfl) (Nat.le_of_ble_eq_true rfl) ?_
  refine W.eq (g2 := F0 m 4 ls []) rfl ?_
  refine lv_aload_n hx hb dX2_init_4 rfl (lv_at hl 0 rfl) ?_
  refine lv_iload_n hx hb dX2_init_5 rfl (lv_at hl 1 rfl) ?_
  refine va_putF (D := D) (ci := 3) (v := .int a1) (ty := .int) (C := RX2) (T := TX2) (N := 6) hx hb hts iw_X2_init_X2 tyX2 tyX2_ok nmX2 hown hK hP hD hS 0 rfl rfl 0 (by decide) (hts _ lk_X2_init_f9) (fun _ h9 => h9) rfl hin rfl (by decide +kernel) rfl rfl (Nat.le_of_ble_eq_true rfl) dX2_init_6 (fun H locs hP hD hS => ?_)
  have hP : va_P D vwCl [(h0, .inr (3, [.int a1, .int 0, .int 0, .int 0, .int 0, .int 0]))] H := hP
  have hD : va_D A [(h0, .inr (3, [.int a1, .int 0, .int 0, .int 0, .int 0, .int 0]))] := hD
  refine lv_aload_n hx hb dX2_init_9 rfl (lv_at hl 0 rfl) ?_
  refine lv_iload_n hx hb dX2_init_10 rfl (lv_at hl 2 rfl) ?_
  refine va_putF (D := D) (ci := 3) (v := .int a2) (ty := .int) (C := RX2) (T := TX2) (N := 6) hx hb hts iw_X2_init_X2 tyX2 tyX2_ok nmX2 hown hK hP hD hS 0 rfl rfl 1 (by decide) (hts _ lk_X2_init_f15) (fun _ h9 => h9) rfl hin rfl (by decide +kernel) rfl rfl (Nat.le_of_ble_eq_true rfl) dX2_init_11 (fun H locs hP hD hS => ?_)
  have hP : va_P D vwCl [(h0, .inr (3, [.int a1, .int a2, .int 0, .int 0, .int 0, .int 0]))] H := hP
  have hD : va_D A [(h0, .inr (3, [.int a1, .int a2, .int 0, .int 0, .int 0, .int 0]))] := hD
  refine lv_aload_n hx hb dX2_init_14 rfl (lv_at hl 0 rfl) ?_
  refine lv_iload_n hx hb dX2_init_15 rfl (lv_at hl 3 rfl) ?_
  refine va_putF (D := D) (ci := 3) (v := .int a3) (ty := .int) (C := RX2) (T := TX2) (N := 6) hx hb hts iw_X2_init_X2 tyX2 tyX2_ok nmX2 hown hK hP hD hS 0 rfl rfl 2 (by decide) (hts _ lk_X2_init_f18) (fun _ h9 => h9) rfl hin rfl (by decide +kernel) rfl rfl (Nat.le_of_ble_eq_true rfl) dX2_init_16 (fun H locs hP hD hS => ?_)
  have hP : va_P D vwCl [(h0, .inr (3, [.int a1, .int a2, .int a3, .int 0, .int 0, .int 0]))] H := hP
  have hD : va_D A [(h0, .inr (3, [.int a1, .int a2, .int a3, .int 0, .int 0, .int 0]))] := hD
  refine lv_aload_n hx hb dX2_init_19 rfl (lv_at hl 0 rfl) ?_
  refine lv_iload hx hb dX2_init_20 (lv_at hl 4 rfl) ?_
  refine va_putF (D := D) (ci := 3) (v := .int a4) (ty := .int) (C := RX2) (T := TX2) (N := 6) hx hb hts iw_X2_init_X2 tyX2 tyX2_ok nmX2 hown hK hP hD hS 0 rfl rfl 3 (by decide) (hts _ lk_X2_init_f21) (fun _ h9 => h9) rfl hin rfl (by decide +kernel) rfl rfl (Nat.le_of_ble_eq_true rfl) dX2_init_22 (fun H locs hP hD hS => ?_)
  have hP : va_P D vwCl [(h0, .inr (3, [.int a1, .int a2, .int a3, .int a4, .int 0, .int 0]))] H := hP
  have hD : va_D A [(h0, .inr (3, [.int a1, .int a2, .int a3, .int a4, .int 0, .int 0]))] := hD
  refine lv_aload_n hx hb dX2_init_25 rfl (lv_at hl 0 rfl) ?_
  refine lv_iload hx hb dX2_init_26 (lv_at hl 5 rfl) ?_
  refine va_putF (D := D) (ci := 3) (v := .int a5) (ty := .int) (C := RX2) (T := TX2) (N := 6) hx hb hts iw_X2_init_X2 tyX2 tyX2_ok nmX2 hown hK hP hD hS 0 rfl rfl 4 (by decide) (hts _ lk_X2_init_f24) (fun _ h9 => h9) rfl hin rfl (by decide +kernel) rfl rfl (Nat.le_of_ble_eq_true rfl) dX2_init_28 (fun H locs hP hD hS => ?_)
  have hP : va_P D vwCl [(h0, .inr (3, [.int a1, .int a2, .int a3, .int a4, .int a5, .int 0]))] H := hP
  have hD : va_D A [(h0, .inr (3, [.int a1, .int a2, .int a3, .int a4, .int a5, .int 0]))] := hD
  refine lv_aload_n hx hb dX2_init_31 rfl (lv_at hl 0 rfl) ?_
  refine lv_iload hx hb dX2_init_32 (lv_at hl 6 rfl) ?_
  refine va_putF (D := D) (ci := 3) (v := .int a6) (ty := .int) (C := RX2) (T := TX2) (N := 6) hx hb hts iw_X2_init_X2 tyX2 tyX2_ok nmX2 hown hK hP hD hS 0 rfl rfl 5 (by decide) (hts _ lk_X2_init_f27) (fun _ h9 => h9) rfl hin rfl (by decide +kernel) rfl rfl (Nat.le_of_ble_eq_true rfl) dX2_init_34 (fun H locs hP hD hS => ?_)
  have hP : va_P D vwCl [(h0, .inr (3, [.int a1, .int a2, .int a3, .int a4, .int a5, .int a6]))] H := hP
  have hD : va_D A [(h0, .inr (3, [.int a1, .int a2, .int a3, .int a4, .int a5, .int a6]))] := hD
  have hP9 := hP.sub (ws' := [(h0, .inr (3, [.int a1, .int a2, .int a3, .int a4, .int a5, .int a6]))]) [0] rfl
  have hD9 := hD.sub (ws' := [(h0, .inr (3, [.int a1, .int a2, .int a3, .int a4, .int a5, .int a6]))]) [0] (by decide) rfl
  exact W.vret hx hb hr (fun t ht hW => ⟨⟨(), rfl, trivial, by rw [ht]; exact hP9, hD9⟩, hS.F ht⟩) hS.2.2 dX2_init_37

theorem iw_X2_checkOctets_X2 : ∀ w ∈ wsX20, w ∈ wsX2_checkOctets := by decide +kernel
theorem lk_X2_checkOctets_f9 : (.fieldLink RX2 9 "DataGuards$Profile" "bits" "I" : Cond) ∈ wsX2_checkOctets := by decide +kernel
set_option maxHeartbeats 4000000 in
set_option maxRecDepth 100000 in
theorem c_X2_checkOctets (l : Launch) (D : va_G) (cy : Nat → ClassId) (sz : Nat) (h0 : Nat) (pB : Nat) (pS : Nat) (pG : Nat) (pE : Nat) (pC : Nat) (pO : Nat) (hB : isB pB) : Met l yX2_checkOctets wsX2_checkOctets ({ frames := 0, cells := 0, slots := 0, locals := 0 } : Room) (pre1 D cy [.ref h0] [(h0, .inr (3, [.int (nI pB), .int (nI pS), .int (nI pG), .int (nI pE), .int (nI pC), .int (nI pO)]))] sz) (va_Qi (fun (r : Int32) (u : Unit) => r = nI (pB / 8)) (fun u t => va_P D vwCl [(h0, .inr (3, [.int (nI pB), .int (nI pS), .int (nI pG), .int (nI pE), .int (nI pC), .int (nI pO)]))] t.heap ∧ va_D (va_A [(h0, .inr (3, [.int (nI pB), .int (nI pS), .int (nI pG), .int (nI pE), .int (nI pC), .int (nI pO)]))] sz) [(h0, .inr (3, [.int (nI pB), .int (nI pS), .int (nI pG), .int (nI pE), .int (nI pC), .int (nI pO)]))]) (va_A [(h0, .inr (3, [.int (nI pB), .int (nI pS), .int (nI pG), .int (nI pE), .int (nI pC), .int (nI pO)]))] sz)) 0 0 (va_A [(h0, .inr (3, [.int (nI pB), .int (nI pS), .int (nI pG), .int (nI pE), .int (nI pC), .int (nI pO)]))] sz) := by
  refine Met.ofW (cc := cX2_checkOctets) (maxL := 1) (ret := (some .int)) (by decide) rfl ?_
  intro p e s m args below meth c s₁ B hml hv
  obtain ⟨rfl, hsz, hP, hkk, hD0⟩ := hv
  have hx := B.exec
  have hb := B.bytes
  have hr := B.returns
  have hts := atoms_spec (ws := wsX2_checkOctets) B.pre
  have hown : s.vm.findClass RX2 = some m.cls := findClass_of_methodNamed B.named
  have hlocks := B.notSynchronized
  have hin : meth.name = _ := (name_of_methodNamed B.named B.method).1
  have hK := hkk.1
  subst hsz
  have hD := hD0.self (sz := s.heap.size)
  generalize hAe : va_A [(h0, .inr (3, [.int (nI pB), .int (nI pS), .int (nI pG), .int (nI pE), .int (nI pC), .int (nI pO)]))] s.heap.size = A at hD ⊢
  have hA : ∀ q : Nat, s.heap.size ≤ q → A q := fun q h => by rw [← hAe]; exact Or.inr h
  have hS : va_S A s.heap s.heap [] := va_S.rf
  have hP : va_P D vwCl [(h0, .inr (3, [.int (nI pB), .int (nI pS), .int (nI pG), .int (nI pE), .int (nI pC), .int (nI pO)]))] s.heap := hP
  have hl := lv_entry ([.ref h0]) (n := 1) (Nat.le_of_ble_eq_true rfl)
  rw [lg_entry_eq]
  generalize (lg_sl ([.ref h0]) ++ List.replicate (1 - (lg_sl ([.ref h0])).length) Slot.unset).toArray = ls at hl ⊢
  have hl : lv_has ls 1 [(0, .ref h0)] := hl
  refine lv_aload_n hx hb dX2_checkOctets_0 rfl (lv_at hl 0 rfl) ?_
  refine va_get (D := D) (ci := 3) (v := .int (nI pB)) (C := RX2) (T := TX2) (N := 6) hx hb hts iw_X2_checkOctets_X2 hown hK hP 0 rfl rfl 0 (by decide) (hts _ lk_X2_checkOctets_f9) (fun _ h9 => h9) rfl dX2_checkOctets_1 ?_
  refine lv_iconst (v := 3) hx hb dX2_checkOctets_4 (by decide) ?_
  refine lv_ishr hx hb dX2_checkOctets_5 ?_
  refine lv_topi (fun x_5 ex_5 => ?_)
  obtain rfl : x_5 = nI (pB / 8) := by rw [ex_5]; exact sh_3 (by rcases hB with rfl | rfl | rfl <;> decide)
  have hP9 := hP.sub (ws' := [(h0, .inr (3, [.int (nI pB), .int (nI pS), .int (nI pG), .int (nI pE), .int (nI pC), .int (nI pO)]))]) [0] rfl
  have hD9 := hD.sub (ws' := [(h0, .inr (3, [.int (nI pB), .int (nI pS), .int (nI pG), .int (nI pE), .int (nI pC), .int (nI pO)]))]) [0] (by decide) rfl
  exact W.iret (v := nI (pB / 8)) hx hb hr (fun t ht hW => ⟨⟨nI (pB / 8), (), rfl, rfl, by rw [ht]; exact hP9, hD9⟩, hS.F ht⟩) hS.2.2 dX2_checkOctets_6

theorem iw_X2_goingRound_X2 : ∀ w ∈ wsX20, w ∈ wsX2_goingRound := by decide +kernel
theorem lk_X2_goingRound_f24 : (.fieldLink RX2 24 "DataGuards$Profile" "counters" "I" : Cond) ∈ wsX2_goingRound := by decide +kernel
set_option maxHeartbeats 4000000 in
set_option maxRecDepth 100000 in
theorem c_X2_goingRound (l : Launch) (D : va_G) (cy : Nat → ClassId) (sz : Nat) (h0 : Nat) (pB : Nat) (pS : Nat) (pG : Nat) (pE : Nat) (pC : Nat) (pO : Nat) (i : Int32) (hC : 0 < pC) (hC2 : pC ≤ 65536) : Met l yX2_goingRound wsX2_goingRound ({ frames := 1, cells := 0, slots := 0, locals := 22 } : Room) (pre1 D cy [.ref h0, .int i] [(h0, .inr (3, [.int (nI pB), .int (nI pS), .int (nI pG), .int (nI pE), .int (nI pC), .int (nI pO)]))] sz) (va_Qi (fun (r : Int32) (u : Unit) => r = fm i (nI pC)) (fun u t => va_P D vwCl [(h0, .inr (3, [.int (nI pB), .int (nI pS), .int (nI pG), .int (nI pE), .int (nI pC), .int (nI pO)]))] t.heap ∧ va_D (va_A [(h0, .inr (3, [.int (nI pB), .int (nI pS), .int (nI pG), .int (nI pE), .int (nI pC), .int (nI pO)]))] sz) [(h0, .inr (3, [.int (nI pB), .int (nI pS), .int (nI pG), .int (nI pE), .int (nI pC), .int (nI pO)]))]) (va_A [(h0, .inr (3, [.int (nI pB), .int (nI pS), .int (nI pG), .int (nI pE), .int (nI pC), .int (nI pO)]))] sz)) 0 0 (va_A [(h0, .inr (3, [.int (nI pB), .int (nI pS), .int (nI pG), .int (nI pE), .int (nI pC), .int (nI pO)]))] sz) := by
  refine Met.ofW (cc := cX2_goingRound) (maxL := 2) (ret := (some .int)) (by decide) rfl ?_
  intro p e s m args below meth c s₁ B hml hv
  obtain ⟨rfl, hsz, hP, hkk, hD0⟩ := hv
  have hx := B.exec
  have hb := B.bytes
  have hr := B.returns
  have hts := atoms_spec (ws := wsX2_goingRound) B.pre
  have hown : s.vm.findClass RX2 = some m.cls := findClass_of_methodNamed B.named
  have hlocks := B.notSynchronized
  have hin : meth.name = _ := (name_of_methodNamed B.named B.method).1
  have hK := hkk.1
  subst hsz
  have hD := hD0.self (sz := s.heap.size)
  generalize hAe : va_A [(h0, .inr (3, [.int (nI pB), .int (nI pS), .int (nI pG), .int (nI pE), .int (nI pC), .int (nI pO)]))] s.heap.size = A at hD ⊢
  have hA : ∀ q : Nat, s.heap.size ≤ q → A q := fun q h => by rw [← hAe]; exact Or.inr h
  have hS : va_S A s.heap s.heap [] := va_S.rf
  have hP : va_P D vwCl [(h0, .inr (3, [.int (nI pB), .int (nI pS), .int (nI pG), .int (nI pE), .int (nI pC), .int (nI pO)]))] s.heap := hP
  have hl := lv_entry ([.ref h0, .int i]) (n := 2) (Nat.le_of_ble_eq_true rfl)
  rw [lg_entry_eq]
  generalize (lg_sl ([.ref h0, .int i]) ++ List.replicate (2 - (lg_sl ([.ref h0, .int i])).length) Slot.unset).toArray = ls at hl ⊢
  have hl : lv_has ls 2 [(0, .ref h0), (1, .int i)] := hl
  refine lv_aload_n hx hb dX2_goingRound_0 rfl (lv_at hl 0 rfl) ?_
  refine va_get (D := D) (ci := 3) (v := .int (nI pC)) (C := RX2) (T := TX2) (N := 6) hx hb hts iw_X2_goingRound_X2 hown hK hP 0 rfl rfl 4 (by decide) (hts _ lk_X2_goingRound_f24) (fun _ h9 => h9) rfl dX2_goingRound_1 ?_
  refine lv_if_le (tgt := 18) hx hb dX2_goingRound_4 (by decide) (fun c_4 => ?_) (fun c_4 => ?_)
  · exact absurd c_4 (nI_nle hC (by omega))
  · refine lv_iload_n hx hb dX2_goingRound_7 rfl (lv_at hl 1 rfl) ?_
    refine lv_aload_n hx hb dX2_goingRound_8 rfl (lv_at hl 0 rfl) ?_
    refine va_get (D := D) (ci := 3) (v := .int (nI pC)) (C := RX2) (T := TX2) (N := 6) hx hb hts iw_X2_goingRound_X2 hown hK hP 0 rfl rfl 4 (by decide) (hts _ lk_X2_goingRound_f24) (fun _ h9 => h9) rfl dX2_goingRound_9 ?_
    have hPc := hP.sub (ws' := []) [] rfl
    have hDc := hD.sub (ws' := []) [] (by decide) rfl
    have hFc := va_free (wc := []) hD hS hA [] rfl
    refine va_calli (va_runS (As := [.int i, .int (nI pC)]) (rest := []) ⟨hx, hb, hml, hown, hts⟩ (c_J9_floorMod_7cf53 l D cy s.heap.size i (nI pC) (nI_ne0 hC (by omega))) (va_cwS 2 hts gX2_goingRound_J9_floorMod_7cf53 rfl rfl rfl (by decide +kernel) ⟨Nat.le_of_ble_eq_true rfl, Nat.le_of_ble_eq_true rfl⟩) (pv_S hkk hPc hDc rfl) rfl rfl hl.1 rfl (lv_room (Nat.le_of_ble_eq_true rfl)) dX2_goingRound_12 ⟨Nat.le_of_ble_eq_true rfl, Nat.le_of_ble_eq_true rfl⟩) hS (fun q _ h => hFc q h) hFc (fun r_12 u t H1 locs ht hvm hw hB hz1 hk1 hS => ?_)
    obtain ⟨hP1, hD1⟩ := hB
    rw [ht] at hP1
    try dsimp only at hw hP1 hD1
    obtain ⟨hP, hD⟩ := va_join (wr := [(h0, .inr (3, [.int (nI pB), .int (nI pS), .int (nI pG), .int (nI pE), .int (nI pC), .int (nI pO)]))]) (w1 := []) hP hD [] [0] rfl rfl (by decide) (by decide) hk1 hFc hP1 hD1
    clear hPc hDc hFc hP1 hD1 hz1 hk1
    generalize H1 = H at hP hS ⊢
    have hP : va_P D vwCl [(h0, .inr (3, [.int (nI pB), .int (nI pS), .int (nI pG), .int (nI pE), .int (nI pC), .int (nI pO)]))] H := hP
    have hD : va_D A [(h0, .inr (3, [.int (nI pB), .int (nI pS), .int (nI pG), .int (nI pE), .int (nI pC), .int (nI pO)]))] := hD
    obtain rfl := hw
    refine lv_goto (tgt := 19) hx hb dX2_goingRound_15 (by decide) ?_
    have hP9 := hP.sub (ws' := [(h0, .inr (3, [.int (nI pB), .int (nI pS), .int (nI pG), .int (nI pE), .int (nI pC), .int (nI pO)]))]) [0] rfl
    have hD9 := hD.sub (ws' := [(h0, .inr (3, [.int (nI pB), .int (nI pS), .int (nI pG), .int (nI pE), .int (nI pC), .int (nI pO)]))]) [0] (by decide) rfl
    exact W.iret (v := fm i (nI pC)) hx hb hr (fun t ht hW => ⟨⟨fm i (nI pC), (), rfl, rfl, by rw [ht]; exact hP9, hD9⟩, hS.F ht⟩) hS.2.2 dX2_goingRound_19

theorem iw_X2_shifted_X2 : ∀ w ∈ wsX20, w ∈ wsX2_shifted := by decide +kernel
theorem lk_X2_shifted_f9 : (.fieldLink RX2 9 "DataGuards$Profile" "bits" "I" : Cond) ∈ wsX2_shifted := by decide +kernel
theorem lk_X2_shifted_f15 : (.fieldLink RX2 15 "DataGuards$Profile" "shape" "I" : Cond) ∈ wsX2_shifted := by decide +kernel
set_option maxHeartbeats 4000000 in
set_option maxRecDepth 100000 in
/-- Profile.shifted(register, octet) -/
theorem c_X2_shifted (l : Launch) (D : va_G) (cy : Nat → ClassId) (sz : Nat) (h0 : Nat) (pB : Nat) (pS : Nat) (pG : Nat) (pE : Nat) (pC : Nat) (pO : Nat) (rg : Nat) (o : Nat) (hB : isB pB) (hr1 : rg < 2 ^ pB) (hS1 : pS < 2 ^ pB) (ho : o < 2 ^ 31) : Met l yX2_shifted wsX2_shifted ({ frames := 0, cells := 0, slots := 0, locals := 0 } : Room) (pre1 D cy [.ref h0, .int (nI rg), .int (nI o)] [(h0, .inr (3, [.int (nI pB), .int (nI pS), .int (nI pG), .int (nI pE), .int (nI pC), .int (nI pO)]))] sz) (va_Qi (fun (r : Int32) (u : Unit) => r = nI (co pB pS o 8 rg)) (fun u t => va_P D vwCl [(h0, .inr (3, [.int (nI pB), .int (nI pS), .int (nI pG), .int (nI pE), .int (nI pC), .int (nI pO)]))] t.heap ∧ va_D (va_A [(h0, .inr (3, [.int (nI pB), .int (nI pS), .int (nI pG), .int (nI pE), .int (nI pC), .int (nI pO)]))] sz) [(h0, .inr (3, [.int (nI pB), .int (nI pS), .int (nI pG), .int (nI pE), .int (nI pC), .int (nI pO)]))]) (va_A [(h0, .inr (3, [.int (nI pB), .int (nI pS), .int (nI pG), .int (nI pE), .int (nI pC), .int (nI pO)]))] sz)) 0 0 (va_A [(h0, .inr (3, [.int (nI pB), .int (nI pS), .int (nI pG), .int (nI pE), .int (nI pC), .int (nI pO)]))] sz) := by
  refine Met.ofW (cc := cX2_shifted) (maxL := 8) (ret := (some .int)) (by decide) rfl ?_
  intro p e s m args below meth c s₁ B hml hv
  obtain ⟨rfl, hsz, hP, hkk, hD0⟩ := hv
  have hx := B.exec
  have hb := B.bytes
  have hr := B.returns
  have hts := atoms_spec (ws := wsX2_shifted) B.pre
  have hown : s.vm.findClass RX2 = some m.cls := findClass_of_methodNamed B.named
  have hlocks := B.notSynchronized
  have hin : meth.name = _ := (name_of_methodNamed B.named B.method).1
  have hK := hkk.1
  subst hsz
  have hD := hD0.self (sz := s.heap.size)
  generalize hAe : va_A [(h0, .inr (3, [.int (nI pB), .int (nI pS), .int (nI pG), .int (nI pE), .int (nI pC), .int (nI pO)]))] s.heap.size = A at hD ⊢
  have hA : ∀ q : Nat, s.heap.size ≤ q → A q := fun q h => by rw [← hAe]; exact Or.inr h
  have hS : va_S A s.heap s.heap [] := va_S.rf
  have hP : va_P D vwCl [(h0, .inr (3, [.int (nI pB), .int (nI pS), .int (nI pG), .int (nI pE), .int (nI pC), .int (nI pO)]))] s.heap := hP
  have hl := lv_entry ([.ref h0, .int (nI rg), .int (nI o)]) (n := 8) (Nat.le_of_ble_eq_true rfl)
  rw [lg_entry_eq]
  generalize (lg_sl ([.ref h0, .int (nI rg), .int (nI o)]) ++ List.replicate (8 - (lg_sl ([.ref h0, .int (nI rg), .int (nI o)])).length) Slot.unset).toArray = ls at hl ⊢
  have hl : lv_has ls 8 [(0, .ref h0), (1, .int (nI rg)), (2, .int (nI o))] := hl
  refine lv_iconst (v := (-1)) hx hb dX2_shifted_0 (by decide) ?_
  refine lv_bipush (v := 32) hx hb dX2_shifted_1 (by decide) ?_
  refine lv_aload_n hx hb dX2_shifted_3 rfl (lv_at hl 0 rfl) ?_
  refine va_get (D := D) (ci := 3) (v := .int (nI pB)) (C := RX2) (T := TX2) (N := 6) hx hb hts iw_X2_shifted_X2 hown hK hP 0 rfl rfl 0 (by decide) (hts _ lk_X2_shifted_f9) (fun _ h9 => h9) rfl dX2_shifted_4 ?_
  refine lv_isub hx hb dX2_shifted_7 ?_
  refine lv_iushr (v := ((-1 : Int32).toUInt32 >>> ((32 - (nI pB)).toUInt32 &&& Int32.toUInt32 31)).toInt32) hx hb dX2_shifted_8 rfl ?_
  refine lv_topi (fun x_8 ex_8 => ?_)
  obtain rfl : x_8 = nI (2 ^ pB - 1) := by rw [ex_8]; exact sh_mask hB
  refine lv_istore_n (lv' := [(3, .int (nI (2 ^ pB - 1))), (0, .ref h0), (1, .int (nI rg)), (2, .int (nI o))]) hx hb dX2_shifted_9 rfl hl (by decide) rfl (fun ls hl => ?_)
  refine lv_iload_n hx hb dX2_shifted_10 rfl (lv_at hl 2 rfl) ?_
  refine lv_istore (lv' := [(4, .int (nI rg)), (3, .int (nI (2 ^ pB - 1))), (0, .ref h0), (1, .int (nI rg)), (2, .int (nI o))]) hx hb dX2_shifted_11 hl (by decide) rfl (fun ls hl => ?_)
  refine lv_bipush (v := 7) hx hb dX2_shifted_13 (by decide) ?_
  refine lv_topi (fun x_13 ex_13 => ?_)
  obtain rfl : x_13 = nI 8 - 1 := by rw [ex_13]; decide
  refine lv_istore (lv' := [(5, .int (nI 8 - 1)), (4, .int (nI rg)), (3, .int (nI (2 ^ pB - 1))), (0, .ref h0), (1, .int (nI rg)), (2, .int (nI o))]) hx hb dX2_shifted_15 hl (by decide) rfl (fun ls hl => ?_)
  have cut_17 : ∀ (N : Nat) (k : Nat) (r1 : Nat) (H : Heap) (locs : List Loc), k < N → r1 < 2 ^ pB → k ≤ 8 → co pB pS o k r1 = co pB pS o 8 rg → va_P D vwCl [(h0, .inr (3, [.int (nI pB), .int (nI pS), .int (nI pG), .int (nI pE), .int (nI pC), .int (nI pO)]))] H → va_D A [(h0, .inr (3, [.int (nI pB), .int (nI pS), .int (nI pG), .int (nI pE), .int (nI pC), .int (nI pO)]))] → va_S A s.heap H locs → ∀ (ls : Array Slot), lv_has ls 8 [(0, .ref h0), (1, .int (nI rg)), (2, .int (nI o)), (3, .int (nI (2 ^ pB - 1))), (4, .int (nI r1)), (5, .int (nI k - 1))] → W p l e (headSpec wsX2_shifted ({ frames := 0, cells := 0, slots := 0, locals := 0 } : Room)).room s m [.ref h0, .int (nI rg), .int (nI o)].toArray below meth c H locs 0 0 (MQ below (va_Qi (fun (r : Int32) (u : Unit) => r = nI (co pB pS o 8 rg)) (fun u t => va_P D vwCl [(h0, .inr (3, [.int (nI pB), .int (nI pS), .int (nI pG), .int (nI pE), .int (nI pC), .int (nI pO)]))] t.heap ∧ va_D A [(h0, .inr (3, [.int (nI pB), .int (nI pS), .int (nI pG), .int (nI pE), .int (nI pC), .int (nI pO)]))]) A) [.ref h0, .int (nI rg), .int (nI o)].toArray s 0 0 A) (F0 m 17 ls []) := by
    intro N
    induction N with
    | zero => intro k r1 H locs hN; exact absurd hN (Nat.not_lt_zero _)
    | succ N ih =>
      intro k r1 H locs hN hr2 hk hco hP hD hS ls hl
      refine lv_iload hx hb dX2_shifted_17 (lv_at hl 5 rfl) ?_
      refine lv_if_lt (tgt := 71) hx hb dX2_shifted_19 (by decide) (fun c_19 => ?_) (fun c_19 => ?_)
      · obtain rfl := oc_pred_neg (by omega) c_19
        refine lv_iload hx hb dX2_shifted_71 (lv_at hl 4 rfl) ?_
        have hP9 := hP.sub (ws' := [(h0, .inr (3, [.int (nI pB), .int (nI pS), .int (nI pG), .int (nI pE), .int (nI pC), .int (nI pO)]))]) [0] rfl
        have hD9 := hD.sub (ws' := [(h0, .inr (3, [.int (nI pB), .int (nI pS), .int (nI pG), .int (nI pE), .int (nI pC), .int (nI pO)]))]) [0] (by decide) rfl
        exact W.iret (v := nI r1) hx hb hr (fun t ht hW => ⟨⟨nI r1, (), rfl, congrArg nI hco, by rw [ht]; exact hP9, hD9⟩, hS.F ht⟩) hS.2.2 dX2_shifted_73
      · obtain ⟨z, rfl⟩ := oc_pred_ok c_19
        refine lv_iload hx hb dX2_shifted_22 (lv_at hl 4 rfl) ?_
        refine lv_aload_n hx hb dX2_shifted_24 rfl (lv_at hl 0 rfl) ?_
        refine va_get (D := D) (ci := 3) (v := .int (nI pB)) (C := RX2) (T := TX2) (N := 6) hx hb hts iw_X2_shifted_X2 hown hK hP 0 rfl rfl 0 (by decide) (hts _ lk_X2_shifted_f9) (fun _ h9 => h9) rfl dX2_shifted_25 ?_
        refine lv_iconst (v := 1) hx hb dX2_shifted_28 (by decide) ?_
        refine lv_isub hx hb dX2_shifted_29 ?_
        refine lv_iushr (v := ((nI r1).toUInt32 >>> (((nI pB) - 1).toUInt32 &&& Int32.toUInt32 31)).toInt32) hx hb dX2_shifted_30 rfl ?_
        refine lv_topi (fun x_30 ex_30 => ?_)
        obtain rfl : x_30 = nI (r1 / 2 ^ (pB - 1)) := by rw [ex_30]; exact sh_hi hB hr2
        refine lv_istore (lv' := [(6, .int (nI (r1 / 2 ^ (pB - 1)))), (0, .ref h0), (1, .int (nI rg)), (2, .int (nI o)), (3, .int (nI (2 ^ pB - 1))), (4, .int (nI r1)), (5, .int (nI (z + 1) - 1))]) hx hb dX2_shifted_31 hl (by decide) rfl (fun ls hl => ?_)
        refine lv_iload_n hx hb dX2_shifted_33 rfl (lv_at hl 3 rfl) ?_
        refine lv_iload hx hb dX2_shifted_34 (lv_at hl 6 rfl) ?_
        refine lv_ishr hx hb dX2_shifted_36 ?_
        refine lv_iconst (v := 1) hx hb dX2_shifted_37 (by decide) ?_
        refine lv_iand hx hb dX2_shifted_38 ?_
        refine lv_topi (fun x_38 ex_38 => ?_)
        obtain rfl : x_38 = nI (o / 2 ^ z % 2) := by rw [ex_38]; exact sh_bit ho (by omega)
        refine lv_istore (lv' := [(7, .int (nI (o / 2 ^ z % 2))), (6, .int (nI (r1 / 2 ^ (pB - 1)))), (0, .ref h0), (1, .int (nI rg)), (2, .int (nI o)), (3, .int (nI (2 ^ pB - 1))), (4, .int (nI r1)), (5, .int (nI (z + 1) - 1))]) hx hb dX2_shifted_39 hl (by decide) rfl (fun ls hl => ?_)
        refine lv_iload hx hb dX2_shifted_41 (lv_at hl 6 rfl) ?_
        refine lv_iconst (v := 1) hx hb dX2_shifted_43 (by decide) ?_
        refine lv_ishl hx hb dX2_shifted_44 ?_
        refine lv_iload_n hx hb dX2_shifted_45 rfl (lv_at hl 5 rfl) ?_
        refine lv_iand hx hb dX2_shifted_46 ?_
        refine lv_topi (fun x_46 ex_46 => ?_)
        obtain rfl : x_46 = nI (r1 * 2 % 2 ^ pB) := by rw [ex_46]; exact sh_dbl hB hr2
        refine lv_istore (lv' := [(4, .int (nI (r1 * 2 % 2 ^ pB))), (7, .int (nI (o / 2 ^ z % 2))), (6, .int (nI (r1 / 2 ^ (pB - 1)))), (0, .ref h0), (1, .int (nI rg)), (2, .int (nI o)), (3, .int (nI (2 ^ pB - 1))), (5, .int (nI (z + 1) - 1))]) hx hb dX2_shifted_47 hl (by decide) rfl (fun ls hl => ?_)
        refine lv_iload hx hb dX2_shifted_49 (lv_at hl 2 rfl) ?_
        refine lv_iload hx hb dX2_shifted_51 (lv_at hl 1 rfl) ?_
        refine lv_icmp_eq (tgt := 65) hx hb dX2_shifted_53 (by decide) (fun c_53 => ?_) (fun c_53 => ?_)
        · refine lv_iinc (v := nI z - 1) (lv' := [(5, .int (nI z - 1)), (4, .int (nI (r1 * 2 % 2 ^ pB))), (7, .int (nI (o / 2 ^ z % 2))), (6, .int (nI (r1 / 2 ^ (pB - 1)))), (0, .ref h0), (1, .int (nI rg)), (2, .int (nI o)), (3, .int (nI (2 ^ pB - 1)))]) hx hb dX2_shifted_65 hl (k := 7) rfl (oc_pp z) (by decide) rfl (fun ls hl => ?_)
          refine lv_goto (tgt := 17) hx hb dX2_shifted_68 (by decide) ?_
          exact ih z (r1 * 2 % 2 ^ pB) _ _ (by omega) (Nat.mod_lt _ (Nat.two_pow_pos pB)) (by omega) ((co_t ((sh_eq hB hr2).mp c_53)).trans hco) hP hD hS _ (lv_sub hl [4, 5, 6, 7, 1, 0] rfl)
        · refine lv_iload hx hb dX2_shifted_56 (lv_at hl 0 rfl) ?_
          refine lv_aload_n hx hb dX2_shifted_58 rfl (lv_at hl 3 rfl) ?_
          refine va_get (D := D) (ci := 3) (v := .int (nI pS)) (C := RX2) (T := TX2) (N := 6) hx hb hts iw_X2_shifted_X2 hown hK hP 0 rfl rfl 1 (by decide) (hts _ lk_X2_shifted_f15) (fun _ h9 => h9) rfl dX2_shifted_59 ?_
          refine lv_ixor hx hb dX2_shifted_62 ?_
          refine lv_topi (fun x_62 ex_62 => ?_)
          obtain rfl : x_62 = nI ((r1 * 2 % 2 ^ pB) ^^^ pS) := by rw [ex_62]; exact nx_xor _ _
          refine lv_istore (lv' := [(4, .int (nI ((r1 * 2 % 2 ^ pB) ^^^ pS))), (7, .int (nI (o / 2 ^ z % 2))), (6, .int (nI (r1 / 2 ^ (pB - 1)))), (0, .ref h0), (1, .int (nI rg)), (2, .int (nI o)), (3, .int (nI (2 ^ pB - 1))), (5, .int (nI (z + 1) - 1))]) hx hb dX2_shifted_63 hl (by decide) rfl (fun ls hl => ?_)
          refine lv_iinc (v := nI z - 1) (lv' := [(5, .int (nI z - 1)), (4, .int (nI ((r1 * 2 % 2 ^ pB) ^^^ pS))), (7, .int (nI (o / 2 ^ z % 2))), (6, .int (nI (r1 / 2 ^ (pB - 1)))), (0, .ref h0), (1, .int (nI rg)), (2, .int (nI o)), (3, .int (nI (2 ^ pB - 1)))]) hx hb dX2_shifted_65 hl (k := 7) rfl (oc_pp z) (by decide) rfl (fun ls hl => ?_)
          refine lv_goto (tgt := 17) hx hb dX2_shifted_68 (by decide) ?_
          exact ih z ((r1 * 2 % 2 ^ pB) ^^^ pS) _ _ (by omega) (Nat.xor_lt_two_pow (Nat.mod_lt _ (Nat.two_pow_pos pB)) hS1) (by omega) ((co_f (fun q => c_53 ((sh_eq hB hr2).mpr q))).trans hco) hP hD hS _ (lv_sub hl [4, 5, 6, 7, 1, 0] rfl)
  exact cut_17 _ 8 rg _ _ (Nat.lt_succ_self _) hr1 (Nat.le_refl _) rfl hP hD hS _ (lv_sub hl [3, 4, 5, 2, 1, 0] rfl)
end
section
theorem iw_X2_checkOver_X2 : ∀ w ∈ wsX20, w ∈ wsX2_checkOver := by decide +kernel
theorem lk_X2_checkOver_f18 : (.fieldLink RX2 18 "DataGuards$Profile" "begin" "I" : Cond) ∈ wsX2_checkOver := by decide +kernel
theorem lk_X2_checkOver_f21 : (.fieldLink RX2 21 "DataGuards$Profile" "end" "I" : Cond) ∈ wsX2_checkOver := by decide +kernel
set_option maxHeartbeats 4000000 in
set_option maxRecDepth 100000 in
/-- Profile.checkOver(identity, row, length) -/
theorem c_X2_checkOver (l : Launch) (D : va_G) (cy : Nat → ClassId) (sz : Nat) (h0 : Nat) (pB : Nat) (pS : Nat) (pG : Nat) (pE : Nat) (pC : Nat) (pO : Nat) (g0 : Nat) (g1 : Nat) (f : Nat → Int32) (n : Nat) (g : Nat → Nat) (d : Nat) (w : Nat) (hB : isB pB) (hG1 : pG < 2 ^ pB) (hS1 : pS < 2 ^ pB) (hd : d < 65536) (hn : n ≤ 70) (hw1 : w ≤ n) (hg : oc_is f n g) : Met l yX2_checkOver wsX2_checkOver ({ frames := 2, cells := 0, slots := 0, locals := 42 } : Room) (pre1 D cy [.ref h0, .int (nI d), .ref g0, .int (nI w)] [(h0, .inr (3, [.int (nI pB), .int (nI pS), .int (nI pG), .int (nI pE), .int (nI pC), .int (nI pO)])), (g0, .inr (2, [.ref g1, .int (nI n)])), (g1, .inl (cy 0, 70, .inl f))] sz) (va_Qi (fun (r : Int32) (u : Unit) => r = nI (ck pB pS pG pE d g w)) (fun u t => va_P D vwCl [(h0, .inr (3, [.int (nI pB), .int (nI pS), .int (nI pG), .int (nI pE), .int (nI pC), .int (nI pO)])), (g0, .inr (2, [.ref g1, .int (nI n)])), (g1, .inl (cy 0, 70, .inl f))] t.heap ∧ va_D (va_A [(h0, .inr (3, [.int (nI pB), .int (nI pS), .int (nI pG), .int (nI pE), .int (nI pC), .int (nI pO)])), (g0, .inr (2, [.ref g1, .int (nI n)])), (g1, .inl (cy 0, 70, .inl f))] sz) [(h0, .inr (3, [.int (nI pB), .int (nI pS), .int (nI pG), .int (nI pE), .int (nI pC), .int (nI pO)])), (g0, .inr (2, [.ref g1, .int (nI n)])), (g1, .inl (cy 0, 70, .inl f))]) (va_A [(h0, .inr (3, [.int (nI pB), .int (nI pS), .int (nI pG), .int (nI pE), .int (nI pC), .int (nI pO)])), (g0, .inr (2, [.ref g1, .int (nI n)])), (g1, .inl (cy 0, 70, .inl f))] sz)) 0 0 (va_A [(h0, .inr (3, [.int (nI pB), .int (nI pS), .int (nI pG), .int (nI pE), .int (nI pC), .int (nI pO)])), (g0, .inr (2, [.ref g1, .int (nI n)])), (g1, .inl (cy 0, 70, .inl f))] sz) := by
  refine Met.ofW (cc := cX2_checkOver) (maxL := 6) (ret := (some .int)) (by decide) rfl ?_
  intro p e s m args below meth c s₁ B hml hv
  obtain ⟨rfl, hsz, hP, hkk, hD0⟩ := hv
  have hx := B.exec
  have hb := B.bytes
  have hr := B.returns
  have hts := atoms_spec (ws := wsX2_checkOver) B.pre
  have hown : s.vm.findClass RX2 = some m.cls := findClass_of_methodNamed B.named
  have hlocks := B.notSynchronized
  have hin : meth.name = _ := (name_of_methodNamed B.named B.method).1
  have hK := hkk.1
  subst hsz
  have hD := hD0.self (sz := s.heap.size)
  generalize hAe : va_A [(h0, .inr (3, [.int (nI pB), .int (nI pS), .int (nI pG), .int (nI pE), .int (nI pC), .int (nI pO)])), (g0, .inr (2, [.ref g1, .int (nI n)])), (g1, .inl (cy 0, 70, .inl f))] s.heap.size = A at hD ⊢
  have hA : ∀ q : Nat, s.heap.size ≤ q → A q := fun q h => by rw [← hAe]; exact Or.inr h
  have hS : va_S A s.heap s.heap [] := va_S.rf
  have hP : va_P D vwCl [(h0, .inr (3, [.int (nI pB), .int (nI pS), .int (nI pG), .int (nI pE), .int (nI pC), .int (nI pO)])), (g0, .inr (2, [.ref g1, .int (nI n)])), (g1, .inl (cy 0, 70, .inl f))] s.heap := hP
  have hl := lv_entry ([.ref h0, .int (nI d), .ref g0, .int (nI w)]) (n := 6) (Nat.le_of_ble_eq_true rfl)
  rw [lg_entry_eq]
  generalize (lg_sl ([.ref h0, .int (nI d), .ref g0, .int (nI w)]) ++ List.replicate (6 - (lg_sl ([.ref h0, .int (nI d), .ref g0, .int (nI w)])).length) Slot.unset).toArray = ls at hl ⊢
  have hl : lv_has ls 6 [(0, .ref h0), (1, .int (nI d)), (2, .ref g0), (3, .int (nI w))] := hl
  refine lv_aload_n hx hb dX2_checkOver_0 rfl (lv_at hl 0 rfl) ?_
  refine lv_aload_n hx hb dX2_checkOver_1 rfl (lv_at hl 0 rfl) ?_
  refine va_get (D := D) (ci := 3) (v := .int (nI pG)) (C := RX2) (T := TX2) (N := 6) hx hb hts iw_X2_checkOver_X2 hown hK hP 0 rfl rfl 2 (by decide) (hts _ lk_X2_checkOver_f18) (fun _ h9 => h9) rfl dX2_checkOver_2 ?_
  refine lv_iload_n hx hb dX2_checkOver_5 rfl (lv_at hl 1 rfl) ?_
  refine lv_bipush (v := 8) hx hb dX2_checkOver_6 (by decide) ?_
  refine lv_ishr hx hb dX2_checkOver_8 ?_
  refine lv_topi (fun x_8 ex_8 => ?_)
  obtain rfl : x_8 = nI (d / 256) := by rw [ex_8]; exact sh_8 hd
  have hPc := hP.sub (ws' := [(h0, .inr (3, [.int (nI pB), .int (nI pS), .int (nI pG), .int (nI pE), .int (nI pC), .int (nI pO)]))]) [0] rfl
  have hDc := hD.sub (ws' := [(h0, .inr (3, [.int (nI pB), .int (nI pS), .int (nI pG), .int (nI pE), .int (nI pC), .int (nI pO)]))]) [0] (by decide) rfl
  have hFc := va_free (wc := [(h0, .inr (3, [.int (nI pB), .int (nI pS), .int (nI pG), .int (nI pE), .int (nI pC), .int (nI pO)]))]) hD hS hA [0] rfl
  refine va_calli (va_runV (As := [.int (nI pG), .int (nI (d / 256))]) (rest := []) ⟨hx, hb, hml, hown, hts⟩ (c_X2_shifted l D cy s.heap.size h0 pB pS pG pE pC pO pG (d / 256) (by first | assumption | omega) hG1 (by first | assumption | omega) (by omega)) (cwV 2 hts gX2_checkOver_X2_shifted rfl rfl rfl (by decide +kernel) ⟨Nat.le_of_ble_eq_true rfl, Nat.le_of_ble_eq_true rfl⟩) (pv_V (ci := 3) (q := (RX2, TX2, 6)) hkk hPc hDc rfl rfl rfl) rfl rfl hl.1 rfl (lv_room (Nat.le_of_ble_eq_true rfl)) dX2_checkOver_9 ⟨Nat.le_of_ble_eq_true rfl, Nat.le_of_ble_eq_true rfl⟩) hS (fun q _ h => hFc q h) hFc (fun r_9 u t H1 locs ht hvm hw hB hz1 hk1 hS => ?_)
  obtain ⟨hP1, hD1⟩ := hB
  rw [ht] at hP1
  try dsimp only at hw hP1 hD1
  obtain ⟨hP, hD⟩ := va_join (wr := [(g0, .inr (2, [.ref g1, .int (nI n)])), (g1, .inl (cy 0, 70, .inl f))]) (w1 := [(h0, .inr (3, [.int (nI pB), .int (nI pS), .int (nI pG), .int (nI pE), .int (nI pC), .int (nI pO)]))]) hP hD [0] [1, 2] rfl rfl (by decide) (by decide) hk1 hFc hP1 hD1
  clear hPc hDc hFc hP1 hD1 hz1 hk1
  generalize H1 = H at hP hS ⊢
  have hP : va_P D vwCl [(g0, .inr (2, [.ref g1, .int (nI n)])), (g1, .inl (cy 0, 70, .inl f)), (h0, .inr (3, [.int (nI pB), .int (nI pS), .int (nI pG), .int (nI pE), .int (nI pC), .int (nI pO)]))] H := hP
  have hD : va_D A [(g0, .inr (2, [.ref g1, .int (nI n)])), (g1, .inl (cy 0, 70, .inl f)), (h0, .inr (3, [.int (nI pB), .int (nI pS), .int (nI pG), .int (nI pE), .int (nI pC), .int (nI pO)]))] := hD
  obtain rfl := hw
  refine lv_istore (lv' := [(4, .int (nI (co pB pS (d / 256) 8 pG))), (0, .ref h0), (1, .int (nI d)), (2, .ref g0), (3, .int (nI w))]) hx hb dX2_checkOver_12 hl (by decide) rfl (fun ls hl => ?_)
  refine lv_aload_n hx hb dX2_checkOver_14 rfl (lv_at hl 1 rfl) ?_
  refine lv_iload hx hb dX2_checkOver_15 (lv_at hl 0 rfl) ?_
  refine lv_iload_n hx hb dX2_checkOver_17 rfl (lv_at hl 2 rfl) ?_
  have hPc := hP.sub (ws' := [(h0, .inr (3, [.int (nI pB), .int (nI pS), .int (nI pG), .int (nI pE), .int (nI pC), .int (nI pO)]))]) [2] rfl
  have hDc := hD.sub (ws' := [(h0, .inr (3, [.int (nI pB), .int (nI pS), .int (nI pG), .int (nI pE), .int (nI pC), .int (nI pO)]))]) [2] (by decide) rfl
  have hFc := va_free (wc := [(h0, .inr (3, [.int (nI pB), .int (nI pS), .int (nI pG), .int (nI pE), .int (nI pC), .int (nI pO)]))]) hD hS hA [2] rfl
  refine va_calli (va_runV (As := [.int (nI (co pB pS (d / 256) 8 pG)), .int (nI d)]) (rest := []) ⟨hx, hb, hml, hown, hts⟩ (c_X2_shifted l D cy H.size h0 pB pS pG pE pC pO (co pB pS (d / 256) 8 pG) d (by first | assumption | omega) (co_lt hS1 8 _ hG1) (by first | assumption | omega) (by omega)) (cwV 2 hts gX2_checkOver_X2_shifted rfl rfl rfl (by decide +kernel) ⟨Nat.le_of_ble_eq_true rfl, Nat.le_of_ble_eq_true rfl⟩) (pv_V (ci := 3) (q := (RX2, TX2, 6)) hkk hPc hDc rfl rfl rfl) rfl rfl hl.1 rfl (lv_room (Nat.le_of_ble_eq_true rfl)) dX2_checkOver_18 ⟨Nat.le_of_ble_eq_true rfl, Nat.le_of_ble_eq_true rfl⟩) hS (fun q _ h => hFc q h) hFc (fun r_18 u t H1 locs ht hvm hw hB hz1 hk1 hS => ?_)
  obtain ⟨hP1, hD1⟩ := hB
  rw [ht] at hP1
  try dsimp only at hw hP1 hD1
  obtain ⟨hP, hD⟩ := va_join (wr := [(g0, .inr (2, [.ref g1, .int (nI n)])), (g1, .inl (cy 0, 70, .inl f))]) (w1 := [(h0, .inr (3, [.int (nI pB), .int (nI pS), .int (nI pG), .int (nI pE), .int (nI pC), .int (nI pO)]))]) hP hD [2] [0, 1] rfl rfl (by decide) (by decide) hk1 hFc hP1 hD1
  clear hPc hDc hFc hP1 hD1 hz1 hk1
  generalize H1 = H at hP hS ⊢
  have hP : va_P D vwCl [(g0, .inr (2, [.ref g1, .int (nI n)])), (g1, .inl (cy 0, 70, .inl f)), (h0, .inr (3, [.int (nI pB), .int (nI pS), .int (nI pG), .int (nI pE), .int (nI pC), .int (nI pO)]))] H := hP
  have hD : va_D A [(g0, .inr (2, [.ref g1, .int (nI n)])), (g1, .inl (cy 0, 70, .inl f)), (h0, .inr (3, [.int (nI pB), .int (nI pS), .int (nI pG), .int (nI pE), .int (nI pC), .int (nI pO)]))] := hD
  obtain rfl := hw
  refine lv_topi (fun x_18 ex_18 => ?_)
  obtain rfl : x_18 = nI (cs pB pS g (co pB pS d 8 (co pB pS (d / 256) 8 pG)) 0) := by rw [ex_18]; exact congrArg nI cs_0.symm
  refine lv_istore (lv' := [(4, .int (nI (cs pB pS g (co pB pS d 8 (co pB pS (d / 256) 8 pG)) 0))), (0, .ref h0), (1, .int (nI d)), (2, .ref g0), (3, .int (nI w))]) hx hb dX2_checkOver_21 hl (by decide) rfl (fun ls hl => ?_)
  refine lv_iconst (v := 0) hx hb dX2_checkOver_23 (by decide) ?_
  refine lv_topi (fun x_23 ex_23 => ?_)
  obtain rfl : x_23 = nI 0 := by rw [ex_23]; exact nI_0.symm
  refine lv_istore (lv' := [(5, .int (nI 0)), (4, .int (nI (cs pB pS g (co pB pS d 8 (co pB pS (d / 256) 8 pG)) 0))), (0, .ref h0), (1, .int (nI d)), (2, .ref g0), (3, .int (nI w))]) hx hb dX2_checkOver_24 hl (by decide) rfl (fun ls hl => ?_)
  have cut_26 : ∀ (N : Nat) (k : Nat) (H : Heap) (locs : List Loc), w - k < N → k ≤ w → va_P D vwCl [(g0, .inr (2, [.ref g1, .int (nI n)])), (g1, .inl (cy 0, 70, .inl f)), (h0, .inr (3, [.int (nI pB), .int (nI pS), .int (nI pG), .int (nI pE), .int (nI pC), .int (nI pO)]))] H → va_D A [(g0, .inr (2, [.ref g1, .int (nI n)])), (g1, .inl (cy 0, 70, .inl f)), (h0, .inr (3, [.int (nI pB), .int (nI pS), .int (nI pG), .int (nI pE), .int (nI pC), .int (nI pO)]))] → va_S A s.heap H locs → ∀ (ls : Array Slot), lv_has ls 6 [(0, .ref h0), (1, .int (nI d)), (2, .ref g0), (3, .int (nI w)), (4, .int (nI (cs pB pS g (co pB pS d 8 (co pB pS (d / 256) 8 pG)) k))), (5, .int (nI k))] → W p l e (headSpec wsX2_checkOver ({ frames := 2, cells := 0, slots := 0, locals := 42 } : Room)).room s m [.ref h0, .int (nI d), .ref g0, .int (nI w)].toArray below meth c H locs 0 0 (MQ below (va_Qi (fun (r : Int32) (u : Unit) => r = nI (ck pB pS pG pE d g w)) (fun u t => va_P D vwCl [(h0, .inr (3, [.int (nI pB), .int (nI pS), .int (nI pG), .int (nI pE), .int (nI pC), .int (nI pO)])), (g0, .inr (2, [.ref g1, .int (nI n)])), (g1, .inl (cy 0, 70, .inl f))] t.heap ∧ va_D A [(h0, .inr (3, [.int (nI pB), .int (nI pS), .int (nI pG), .int (nI pE), .int (nI pC), .int (nI pO)])), (g0, .inr (2, [.ref g1, .int (nI n)])), (g1, .inl (cy 0, 70, .inl f))]) A) [.ref h0, .int (nI d), .ref g0, .int (nI w)].toArray s 0 0 A) (F0 m 26 ls []) := by
    intro N
    induction N with
    | zero => intro k H locs hN; exact absurd hN (Nat.not_lt_zero _)
    | succ N ih =>
      intro k H locs hN hk hP hD hS ls hl
      refine lv_iload hx hb dX2_checkOver_26 (lv_at hl 5 rfl) ?_
      refine lv_iload_n hx hb dX2_checkOver_28 rfl (lv_at hl 3 rfl) ?_
      refine lv_icmp_ge (tgt := 52) hx hb dX2_checkOver_29 (by decide) (fun c_29 => ?_) (fun c_29 => ?_)
      · obtain rfl : w = k := Nat.le_antisymm ((oc_ltN (by omega) (by omega)).mp c_29) hk
        refine lv_iload hx hb dX2_checkOver_52 (lv_at hl 4 rfl) ?_
        refine lv_aload_n hx hb dX2_checkOver_54 rfl (lv_at hl 0 rfl) ?_
        refine va_get (D := D) (ci := 3) (v := .int (nI pE)) (C := RX2) (T := TX2) (N := 6) hx hb hts iw_X2_checkOver_X2 hown hK hP 2 rfl rfl 3 (by decide) (hts _ lk_X2_checkOver_f21) (fun _ h9 => h9) rfl dX2_checkOver_55 ?_
        refine lv_ixor hx hb dX2_checkOver_58 ?_
        refine lv_topi (fun x_58 ex_58 => ?_)
        obtain rfl : x_58 = nI (ck pB pS pG pE d g w) := by rw [ex_58]; unfold ck; exact nx_xor _ _
        have hP9 := hP.sub (ws' := [(h0, .inr (3, [.int (nI pB), .int (nI pS), .int (nI pG), .int (nI pE), .int (nI pC), .int (nI pO)])), (g0, .inr (2, [.ref g1, .int (nI n)])), (g1, .inl (cy 0, 70, .inl f))]) [2, 0, 1] rfl
        have hD9 := hD.sub (ws' := [(h0, .inr (3, [.int (nI pB), .int (nI pS), .int (nI pG), .int (nI pE), .int (nI pC), .int (nI pO)])), (g0, .inr (2, [.ref g1, .int (nI n)])), (g1, .inl (cy 0, 70, .inl f))]) [2, 0, 1] (by decide) rfl
        exact W.iret (v := nI (ck pB pS pG pE d g w)) hx hb hr (fun t ht hW => ⟨⟨nI (ck pB pS pG pE d g w), (), rfl, rfl, by rw [ht]; exact hP9, hD9⟩, hS.F ht⟩) hS.2.2 dX2_checkOver_59
      · have hkm : k < w := Nat.not_le.mp fun q => c_29 ((oc_ltN (by omega) (by omega)).mpr q)
        refine lv_aload_n hx hb dX2_checkOver_32 rfl (lv_at hl 0 rfl) ?_
        refine lv_iload hx hb dX2_checkOver_33 (lv_at hl 4 rfl) ?_
        refine lv_aload_n hx hb dX2_checkOver_35 rfl (lv_at hl 2 rfl) ?_
        refine lv_iload hx hb dX2_checkOver_36 (lv_at hl 5 rfl) ?_
        have hPc := hP.sub (ws' := [(g0, .inr (2, [.ref g1, .int (nI n)])), (g1, .inl (cy 0, 70, .inl f))]) [0, 1] rfl
        have hDc := hD.sub (ws' := [(g0, .inr (2, [.ref g1, .int (nI n)])), (g1, .inl (cy 0, 70, .inl f))]) [0, 1] (by decide) rfl
        have hFc := va_free (wc := [(g0, .inr (2, [.ref g1, .int (nI n)])), (g1, .inl (cy 0, 70, .inl f))]) hD hS hA [0, 1] rfl
        refine va_calli (va_runV (As := [.int (nI k)]) (rest := [.int (nI (cs pB pS g (co pB pS d 8 (co pB pS (d / 256) 8 pG)) k)), .ref h0]) ⟨hx, hb, hml, hown, hts⟩ (c_X1_get l D cy H.size g0 g1 f n (nI k) hn) (cwV 1 hts gX2_checkOver_X1_get rfl rfl rfl (by decide +kernel) ⟨Nat.le_of_ble_eq_true rfl, Nat.le_of_ble_eq_true rfl⟩) (pv_V (ci := 2) (q := (RX1, TX1, 2)) hkk hPc hDc rfl rfl rfl) rfl rfl hl.1 rfl (lv_room (Nat.le_of_ble_eq_true rfl)) dX2_checkOver_38 ⟨Nat.le_of_ble_eq_true rfl, Nat.le_of_ble_eq_true rfl⟩) hS (fun q _ h => hFc q h) hFc (fun r_38 u t H1 locs ht hvm hw hB hz1 hk1 hS => ?_)
        obtain ⟨hP1, hD1⟩ := hB
        rw [ht] at hP1
        try dsimp only at hw hP1 hD1
        obtain ⟨hP, hD⟩ := va_join (wr := [(h0, .inr (3, [.int (nI pB), .int (nI pS), .int (nI pG), .int (nI pE), .int (nI pC), .int (nI pO)]))]) (w1 := [(g0, .inr (2, [.ref g1, .int (nI n)])), (g1, .inl (cy 0, 70, .inl f))]) hP hD [0, 1] [2] rfl rfl (by decide) (by decide) hk1 hFc hP1 hD1
        clear hPc hDc hFc hP1 hD1 hz1 hk1
        generalize H1 = H at hP hS ⊢
        have hP : va_P D vwCl [(h0, .inr (3, [.int (nI pB), .int (nI pS), .int (nI pG), .int (nI pE), .int (nI pC), .int (nI pO)])), (g0, .inr (2, [.ref g1, .int (nI n)])), (g1, .inl (cy 0, 70, .inl f))] H := hP
        have hD : va_D A [(h0, .inr (3, [.int (nI pB), .int (nI pS), .int (nI pG), .int (nI pE), .int (nI pC), .int (nI pO)])), (g0, .inr (2, [.ref g1, .int (nI n)])), (g1, .inl (cy 0, 70, .inl f))] := hD
        obtain rfl := hw
        refine lv_topi (fun x_38 ex_38 => ?_)
        obtain rfl : x_38 = nI (g k) := by rw [ex_38]; exact oc_get_is hg (by omega) hn
        have hPc := hP.sub (ws' := [(h0, .inr (3, [.int (nI pB), .int (nI pS), .int (nI pG), .int (nI pE), .int (nI pC), .int (nI pO)]))]) [0] rfl
        have hDc := hD.sub (ws' := [(h0, .inr (3, [.int (nI pB), .int (nI pS), .int (nI pG), .int (nI pE), .int (nI pC), .int (nI pO)]))]) [0] (by decide) rfl
        have hFc := va_free (wc := [(h0, .inr (3, [.int (nI pB), .int (nI pS), .int (nI pG), .int (nI pE), .int (nI pC), .int (nI pO)]))]) hD hS hA [0] rfl
        refine va_calli (va_runV (As := [.int (nI (cs pB pS g (co pB pS d 8 (co pB pS (d / 256) 8 pG)) k)), .int (nI (g k))]) (rest := []) ⟨hx, hb, hml, hown, hts⟩ (c_X2_shifted l D cy H.size h0 pB pS pG pE pC pO (cs pB pS g (co pB pS d 8 (co pB pS (d / 256) 8 pG)) k) (g k) (by first | assumption | omega) (cs_lt hS1 (co_lt hS1 8 _ (co_lt hS1 8 _ hG1)) k) (by first | assumption | omega) (by have := (hg k (by omega)).2; omega)) (cwV 2 hts gX2_checkOver_X2_shifted rfl rfl rfl (by decide +kernel) ⟨Nat.le_of_ble_eq_true rfl, Nat.le_of_ble_eq_true rfl⟩) (pv_V (ci := 3) (q := (RX2, TX2, 6)) hkk hPc hDc rfl rfl rfl) rfl rfl hl.1 rfl (lv_room (Nat.le_of_ble_eq_true rfl)) dX2_checkOver_41 ⟨Nat.le_of_ble_eq_true rfl, Nat.le_of_ble_eq_true rfl⟩) hS (fun q _ h => hFc q h) hFc (fun r_41 u t H1 locs ht hvm hw hB hz1 hk1 hS => ?_)
        obtain ⟨hP1, hD1⟩ := hB
        rw [ht] at hP1
        try dsimp only at hw hP1 hD1
        obtain ⟨hP, hD⟩ := va_join (wr := [(g0, .inr (2, [.ref g1, .int (nI n)])), (g1, .inl (cy 0, 70, .inl f))]) (w1 := [(h0, .inr (3, [.int (nI pB), .int (nI pS), .int (nI pG), .int (nI pE), .int (nI pC), .int (nI pO)]))]) hP hD [0] [1, 2] rfl rfl (by decide) (by decide) hk1 hFc hP1 hD1
        clear hPc hDc hFc hP1 hD1 hz1 hk1
        generalize H1 = H at hP hS ⊢
        have hP : va_P D vwCl [(g0, .inr (2, [.ref g1, .int (nI n)])), (g1, .inl (cy 0, 70, .inl f)), (h0, .inr (3, [.int (nI pB), .int (nI pS), .int (nI pG), .int (nI pE), .int (nI pC), .int (nI pO)]))] H := hP
        have hD : va_D A [(g0, .inr (2, [.ref g1, .int (nI n)])), (g1, .inl (cy 0, 70, .inl f)), (h0, .inr (3, [.int (nI pB), .int (nI pS), .int (nI pG), .int (nI pE), .int (nI pC), .int (nI pO)]))] := hD
        obtain rfl := hw
        refine lv_topi (fun x_41 ex_41 => ?_)
        obtain rfl : x_41 = nI (cs pB pS g (co pB pS d 8 (co pB pS (d / 256) 8 pG)) (k + 1)) := by rw [ex_41]; exact congrArg nI cs_1.symm
        refine lv_istore (lv' := [(4, .int (nI (cs pB pS g (co pB pS d 8 (co pB pS (d / 256) 8 pG)) (k + 1)))), (0, .ref h0), (1, .int (nI d)), (2, .ref g0), (3, .int (nI w)), (5, .int (nI k))]) hx hb dX2_checkOver_44 hl (by decide) rfl (fun ls hl => ?_)
        refine lv_iinc (v := nI (k + 1)) (lv' := [(5, .int (nI (k + 1))), (4, .int (nI (cs pB pS g (co pB pS d 8 (co pB pS (d / 256) 8 pG)) (k + 1)))), (0, .ref h0), (1, .int (nI d)), (2, .ref g0), (3, .int (nI w))]) hx hb dX2_checkOver_46 hl (k := 5) rfl (nI_1 k) (by decide) rfl (fun ls hl => ?_)
        refine lv_goto (tgt := 26) hx hb dX2_checkOver_49 (by decide) ?_
        exact ih (k + 1) _ _ (by omega) (by omega) hP hD hS _ (lv_sub hl [2, 3, 4, 5, 1, 0] rfl)
  exact cut_26 _ 0 _ _ (Nat.lt_succ_self _) (Nat.zero_le _) hP hD hS _ (lv_sub hl [2, 3, 4, 5, 1, 0] rfl)
end
section
/-! History: sides, findings, what they come to. -/
def sd (x : Int32) : Int32 := if x = 0 then 1 else if x = 1 then 0 else if x = 2 then 1 else if x = 3 then 2 else if x = 4 then 2 else if x = 5 then 1 else 0
def hi_f (f : Nat → Int32) (w : Nat) (i : Int32) : Int32 := if 0 ≤ i.toInt ∧ i.toInt < (w : Int) then f i.toNatClampNeg else -1
def hi_c (f : Nat → Int32) (w : Nat) (y : Int32) : Nat → Nat
  | 0 => 0
  | k + 1 => hi_c f w y k + (if sd (hi_f f w (nI k)) = y then 1 else 0)
def hi_j (f : Nat → Int32) (w : Nat) (b : Int32) : Int32 := if 3 ≤ hi_c f w 2 10 then 3 else if 3 ≤ hi_c f w 1 10 ∧ (b = 1 ∨ (b = 3 ∧ hi_c f w 1 3 = 3)) then 2 else b
def hi_e (bt i : Int32) : Int32 := if ¬ i < 0 ∧ ¬ 5 < i ∧ (bt >>> (i &&& 31)) &&& 1 = 1 then 1 else 0
def hi_s (f : Nat → Int32) (x : Int32) : Nat → Int32 := fun j => if j = 0 then x else f (j - 1)
theorem i32_10 : (10 : Int32) = nI 10 := by decide
theorem hi_f_lo {f : Nat → Int32} {w : Nat} {i : Int32} (h : i < 0) : -1 = hi_f f w i := by
  have h2 : i.toInt < 0 := by simpa [Int32.lt_iff_toInt_lt] using h
  unfold hi_f; rw [if_neg (by omega)]
theorem hi_f_hi {f : Nat → Int32} {w : Nat} {i : Int32} (hw : w ≤ 10) (h : nI w ≤ i) : -1 = hi_f f w i := by
  rw [Int32.le_iff_toInt_le, nI_toInt (by omega)] at h
  unfold hi_f; rw [if_neg (by omega)]
theorem hi_f_10 {f : Nat → Int32} {w : Nat} {i : Int32} (hw : w ≤ 10) (h : 10 ≤ i) : -1 = hi_f f w i := by
  rw [i32_10, Int32.le_iff_toInt_le, nI_toInt (by decide)] at h
  unfold hi_f; rw [if_neg (by omega)]
theorem hi_f_in {f : Nat → Int32} {w : Nat} {i : Int32} (hw : w ≤ 10) (h0 : ¬ i < 0) (h : ¬ nI w ≤ i) : f i.toNatClampNeg = hi_f f w i := by
  have h2 : ¬ i.toInt < 0 := by simpa [Int32.lt_iff_toInt_lt] using h0
  rw [Int32.le_iff_toInt_le, nI_toInt (by omega)] at h
  unfold hi_f; rw [if_pos (by omega)]
theorem hi_f_vp {w : Nat} {i : Int32} (hw : w ≤ 10) (h0 : ¬ i < 0) (h : ¬ nI w ≤ i) : vp_in i 10 := by
  have h2 : ¬ i.toInt < 0 := by simpa [Int32.lt_iff_toInt_lt] using h0
  rw [Int32.le_iff_toInt_le, nI_toInt (by omega)] at h
  exact vp_in_iff.mpr ⟨by omega, by omega⟩
theorem hi_c_le {f : Nat → Int32} {w : Nat} {y : Int32} : ∀ k, hi_c f w y k ≤ k
  | 0 => Nat.le_refl _
  | k + 1 => by
    have := hi_c_le (f := f) (w := w) (y := y) k
    unfold hi_c
    split <;> omega
theorem hi_c_0 {f : Nat → Int32} {w : Nat} {y : Int32} : hi_c f w y 0 = 0 := rfl
theorem hi_c_y {f : Nat → Int32} {w k : Nat} {y : Int32} (h : sd (hi_f f w (nI k)) = y) : hi_c f w y k + 1 = hi_c f w y (k + 1) := by
  show _ = hi_c f w y k + _
  rw [if_pos h]
theorem hi_c_n {f : Nat → Int32} {w k : Nat} {y : Int32} (h : ¬ sd (hi_f f w (nI k)) = y) : hi_c f w y k = hi_c f w y (k + 1) := by
  show _ = hi_c f w y k + _
  rw [if_neg h]; rfl
theorem hi_j_a {f : Nat → Int32} {w : Nat} {b : Int32} (h : 3 ≤ hi_c f w 2 10) : 3 = hi_j f w b := by unfold hi_j; rw [if_pos h]
theorem hi_j_b {f : Nat → Int32} {w : Nat} {b : Int32} (h : ¬ 3 ≤ hi_c f w 2 10) (h2 : 3 ≤ hi_c f w 1 10) (h3 : b = 1 ∨ (b = 3 ∧ hi_c f w 1 3 = 3)) : 2 = hi_j f w b := by unfold hi_j; rw [if_neg h, if_pos ⟨h2, h3⟩]
theorem hi_j_c {f : Nat → Int32} {w : Nat} {b : Int32} (h : ¬ 3 ≤ hi_c f w 2 10) (h2 : ¬ (3 ≤ hi_c f w 1 10 ∧ (b = 1 ∨ (b = 3 ∧ hi_c f w 1 3 = 3)))) : b = hi_j f w b := by unfold hi_j; rw [if_neg h, if_neg h2]
theorem i32_3 : (3 : Int32) = nI 3 := by decide
theorem hi_lt3 {a : Nat} (ha : a ≤ 10) : nI a < 3 ↔ a < 3 := by rw [i32_3]; exact nI_ltI (by omega) (by decide)
theorem hi_eq3 {a : Nat} (ha : a ≤ 10) : nI a = 3 ↔ a = 3 := by rw [i32_3]; exact nI_eq (by omega) (by decide)
theorem hi_min {w : Nat} (hw : w ≤ 10) : (if (10 : Int32) < nI w + 1 then 10 else nI w + 1) = nI (min (w + 1) 10) := by
  rw [nI_1, i32_10]
  by_cases h : 10 < w + 1
  · rw [if_pos (nI_lt h (by omega)), Nat.min_eq_right (by omega)]
  · rw [if_neg (nI_nlt (by omega) (by decide)), Nat.min_eq_left (by omega)]
theorem hi_sh {f f1 : Nat → Int32} {k : Nat} (hk : k + 1 ≤ 9) (h : ∀ j, j < 10 → f1 j = if k + 1 < j then f (j - 1) else f j) : ∀ j, j < 10 → upd f1 (k + 1) (f1 k) j = if k < j then f (j - 1) else f j := by
  intro j hj
  by_cases e : j = k + 1
  · subst e
    rw [pk_us, h k (by omega), if_neg (by omega), if_pos (by omega)]
    rfl
  · rw [pk_un e, h j hj]
    by_cases q : k + 1 < j
    · rw [if_pos q, if_pos (by omega)]
    · rw [if_neg q, if_neg (by omega)]
theorem hi_s0 {f f1 : Nat → Int32} {x : Int32} (h : ∀ j, j < 10 → f1 j = if 0 < j then f (j - 1) else f j) : ∀ j, j < 10 → upd f1 0 x j = hi_s f x j := by
  intro j hj
  unfold hi_s
  by_cases e : j = 0
  · subst e; rw [pk_us, if_pos rfl]
  · rw [pk_un e, h j hj, if_pos (by omega), if_neg e]
theorem hi_k9 {k : Nat} (hk : k ≤ 9) (h : nI k ≤ 0) : k = 0 := by
  rcases k with _ | k
  · rfl
  · exact absurd h (nI_nle (by omega) (by omega))
theorem hi_k9' {k : Nat} (h : ¬ nI k ≤ 0) : ∃ z, k = z + 1 := by
  rcases k with _ | k
  · exact absurd (by decide) h
  · exact ⟨k, rfl⟩
theorem oc_m1 (z : Nat) : nI (z + 1) + Int32.ofInt (-1) = nI z := by
  rw [← nI_pred z, Int32.sub_eq_add_neg]; rfl
end
section

set_option maxHeartbeats 4000000 in
set_option maxRecDepth 100000 in
/-- sideOf(finding) -/
theorem c_X5_sideOf (l : Launch) (D : va_G) (cy : Nat → ClassId) (sz : Nat) (x : Int32)  : Met l yX5_sideOf wsX5_sideOf ({ frames := 0, cells := 0, slots := 0, locals := 0 } : Room) (pre1 D cy [.int x] [] sz) (va_Qi (fun (r : Int32) (u : Unit) => r = sd x) (fun u t => va_P D vwCl [] t.heap ∧ va_D (va_A [] sz) []) (va_A [] sz)) 0 0 (va_A [] sz) := by
  refine Met.ofW (cc := cX5_sideOf) (maxL := 1) (ret := (some .int)) (by decide) rfl ?_
  intro p e s m args below meth c s₁ B hml hv
  obtain ⟨rfl, hsz, hP, hkk, hD0⟩ := hv
  have hx := B.exec
  have hb := B.bytes
  have hr := B.returns
  have hts := atoms_spec (ws := wsX5_sideOf) B.pre
  have hown : s.vm.findClass RX5 = some m.cls := findClass_of_methodNamed B.named
  have hlocks := B.notSynchronized
  have hin : meth.name = _ := (name_of_methodNamed B.named B.method).1
  have hK := hkk.1
  subst hsz
  have hD := hD0.self (sz := s.heap.size)
  generalize hAe : va_A [] s.heap.size = A at hD ⊢
  have hA : ∀ q : Nat, s.heap.size ≤ q → A q := fun q h => by rw [← hAe]; exact Or.inr h
  have hS : va_S A s.heap s.heap [] := va_S.rf
  have hP : va_P D vwCl [] s.heap := hP
  have hl := lv_entry ([.int x]) (n := 1) (Nat.le_of_ble_eq_true rfl)
  rw [lg_entry_eq]
  generalize (lg_sl ([.int x]) ++ List.replicate (1 - (lg_sl ([.int x])).length) Slot.unset).toArray = ls at hl ⊢
  have hl : lv_has ls 1 [(0, .int x)] := hl
  refine lv_iload_n hx hb dX5_sideOf_0 rfl (lv_at hl 0 rfl) ?_
  by_cases sw_1_0 : x = 0
  · refine lv_tableIn (tgt := 40) (off := 39) hx hb dX5_sideOf_1 (by rw [sw_1_0]; decide) (by rw [sw_1_0]; decide) (by rw [sw_1_0]; rfl) (by decide) ?_
    refine lv_iconst (v := 1) hx hb dX5_sideOf_40 (by decide) ?_
    have hP9 := hP.sub (ws' := []) [] rfl
    have hD9 := hD.sub (ws' := []) [] (by decide) rfl
    exact W.iret (v := 1) hx hb hr (fun t ht hW => ⟨⟨1, (), rfl, by rw [sw_1_0]; rfl, by rw [ht]; exact hP9, hD9⟩, hS.F ht⟩) hS.2.2 dX5_sideOf_41
  by_cases sw_1_1 : x = 1
  · refine lv_tableIn (tgt := 44) (off := 43) hx hb dX5_sideOf_1 (by rw [sw_1_1]; decide) (by rw [sw_1_1]; decide) (by rw [sw_1_1]; rfl) (by decide) ?_
    refine lv_iconst (v := 0) hx hb dX5_sideOf_44 (by decide) ?_
    have hP9 := hP.sub (ws' := []) [] rfl
    have hD9 := hD.sub (ws' := []) [] (by decide) rfl
    exact W.iret (v := 0) hx hb hr (fun t ht hW => ⟨⟨0, (), rfl, by rw [sw_1_1]; rfl, by rw [ht]; exact hP9, hD9⟩, hS.F ht⟩) hS.2.2 dX5_sideOf_45
  by_cases sw_1_2 : x = 2
  · refine lv_tableIn (tgt := 40) (off := 39) hx hb dX5_sideOf_1 (by rw [sw_1_2]; decide) (by rw [sw_1_2]; decide) (by rw [sw_1_2]; rfl) (by decide) ?_
    refine lv_iconst (v := 1) hx hb dX5_sideOf_40 (by decide) ?_
    have hP9 := hP.sub (ws' := []) [] rfl
    have hD9 := hD.sub (ws' := []) [] (by decide) rfl
    exact W.iret (v := 1) hx hb hr (fun t ht hW => ⟨⟨1, (), rfl, by rw [sw_1_2]; rfl, by rw [ht]; exact hP9, hD9⟩, hS.F ht⟩) hS.2.2 dX5_sideOf_41
  by_cases sw_1_3 : x = 3
  · refine lv_tableIn (tgt := 42) (off := 41) hx hb dX5_sideOf_1 (by rw [sw_1_3]; decide) (by rw [sw_1_3]; decide) (by rw [sw_1_3]; rfl) (by decide) ?_
    refine lv_iconst (v := 2) hx hb dX5_sideOf_42 (by decide) ?_
    have hP9 := hP.sub (ws' := []) [] rfl
    have hD9 := hD.sub (ws' := []) [] (by decide) rfl
    exact W.iret (v := 2) hx hb hr (fun t ht hW => ⟨⟨2, (), rfl, by rw [sw_1_3]; rfl, by rw [ht]; exact hP9, hD9⟩, hS.F ht⟩) hS.2.2 dX5_sideOf_43
  by_cases sw_1_4 : x = 4
  · refine lv_tableIn (tgt := 42) (off := 41) hx hb dX5_sideOf_1 (by rw [sw_1_4]; decide) (by rw [sw_1_4]; decide) (by rw [sw_1_4]; rfl) (by decide) ?_
    refine lv_iconst (v := 2) hx hb dX5_sideOf_42 (by decide) ?_
    have hP9 := hP.sub (ws' := []) [] rfl
    have hD9 := hD.sub (ws' := []) [] (by decide) rfl
    exact W.iret (v := 2) hx hb hr (fun t ht hW => ⟨⟨2, (), rfl, by rw [sw_1_4]; rfl, by rw [ht]; exact hP9, hD9⟩, hS.F ht⟩) hS.2.2 dX5_sideOf_43
  by_cases sw_1_5 : x = 5
  · refine lv_tableIn (tgt := 40) (off := 39) hx hb dX5_sideOf_1 (by rw [sw_1_5]; decide) (by rw [sw_1_5]; decide) (by rw [sw_1_5]; rfl) (by decide) ?_
    refine lv_iconst (v := 1) hx hb dX5_sideOf_40 (by decide) ?_
    have hP9 := hP.sub (ws' := []) [] rfl
    have hD9 := hD.sub (ws' := []) [] (by decide) rfl
    exact W.iret (v := 1) hx hb hr (fun t ht hW => ⟨⟨1, (), rfl, by rw [sw_1_5]; rfl, by rw [ht]; exact hP9, hD9⟩, hS.F ht⟩) hS.2.2 dX5_sideOf_41
  refine lv_tableOut (tgt := 44) hx hb dX5_sideOf_1 (by have := lv_neT sw_1_0 (a := 0) (by decide); have := lv_neT sw_1_1 (a := 1) (by decide); have := lv_neT sw_1_2 (a := 2) (by decide); have := lv_neT sw_1_3 (a := 3) (by decide); have := lv_neT sw_1_4 (a := 4) (by decide); have := lv_neT sw_1_5 (a := 5) (by decide); omega) (by decide) ?_
  refine lv_iconst (v := 0) hx hb dX5_sideOf_44 (by decide) ?_
  have hP9 := hP.sub (ws' := []) [] rfl
  have hD9 := hD.sub (ws' := []) [] (by decide) rfl
  exact W.iret (v := 0) hx hb hr (fun t ht hW => ⟨⟨0, (), rfl, by unfold sd; rw [if_neg sw_1_0, if_neg sw_1_1, if_neg sw_1_2, if_neg sw_1_3, if_neg sw_1_4, if_neg sw_1_5], by rw [ht]; exact hP9, hD9⟩, hS.F ht⟩) hS.2.2 dX5_sideOf_45

theorem iw_X0_finding_X0 : ∀ w ∈ wsX00, w ∈ wsX0_finding := by decide +kernel
theorem lk_X0_finding_f19 : (.fieldLink RX0 19 "DataGuards$History" "rows" "I" : Cond) ∈ wsX0_finding := by decide +kernel
theorem lk_X0_finding_f9 : (.fieldLink RX0 9 "DataGuards$History" "findings" "[I" : Cond) ∈ wsX0_finding := by decide +kernel
set_option maxHeartbeats 4000000 in
set_option maxRecDepth 100000 in
theorem c_X0_finding (l : Launch) (D : va_G) (cy : Nat → ClassId) (sz : Nat) (h0 : Nat) (h1 : Nat) (f : Nat → Int32) (w : Nat) (gr : Int32) (bt : Int32) (jo : Int32) (i : Int32) (hw9 : w ≤ 10) : Met l yX0_finding wsX0_finding ({ frames := 0, cells := 0, slots := 0, locals := 0 } : Room) (pre1 D cy [.ref h0, .int i] [(h0, .inr (1, [.ref h1, .int (nI w), .int gr, .int bt, .int jo])), (h1, .inl (cy 1, 10, .inl f))] sz) (va_Qi (fun (r : Int32) (u : Unit) => r = hi_f f w i) (fun u t => va_P D vwCl [(h0, .inr (1, [.ref h1, .int (nI w), .int gr, .int bt, .int jo])), (h1, .inl (cy 1, 10, .inl f))] t.heap ∧ va_D (va_A [(h0, .inr (1, [.ref h1, .int (nI w), .int gr, .int bt, .int jo])), (h1, .inl (cy 1, 10, .inl f))] sz) [(h0, .inr (1, [.ref h1, .int (nI w), .int gr, .int bt, .int jo])), (h1, .inl (cy 1, 10, .inl f))]) (va_A [(h0, .inr (1, [.ref h1, .int (nI w), .int gr, .int bt, .int jo])), (h1, .inl (cy 1, 10, .inl f))] sz)) 0 0 (va_A [(h0, .inr (1, [.ref h1, .int (nI w), .int gr, .int bt, .int jo])), (h1, .inl (cy 1, 10, .inl f))] sz) := by
  refine Met.ofW (cc := cX0_finding) (maxL := 2) (ret := (some .int)) (by decide) rfl ?_
  intro p e s m args below meth c s₁ B hml hv
  obtain ⟨rfl, hsz, hP, hkk, hD0⟩ := hv
  have hx := B.exec
  have hb := B.bytes
  have hr := B.returns
  have hts := atoms_spec (ws := wsX0_finding) B.pre
  have hown : s.vm.findClass RX0 = some m.cls := findClass_of_methodNamed B.named
  have hlocks := B.notSynchronized
  have hin : meth.name = _ := (name_of_methodNamed B.named B.method).1
  have hK := hkk.1
  subst hsz
  have hD := hD0.self (sz := s.heap.size)
  generalize hAe : va_A [(h0, .inr (1, [.ref h1, .int (nI w), .int gr, .int bt, .int jo])), (h1, .inl (cy 1, 10, .inl f))] s.heap.size = A at hD ⊢
  have hA : ∀ q : Nat, s.heap.size ≤ q → A q := fun q h => by rw [← hAe]; exact Or.inr h
  have hS : va_S A s.heap s.heap [] := va_S.rf
  have hP : va_P D vwCl [(h0, .inr (1, [.ref h1, .int (nI w), .int gr, .int bt, .int jo])), (h1, .inl (cy 1, 10, .inl f))] s.heap := hP
  have hl := lv_entry ([.ref h0, .int i]) (n := 2) (Nat.le_of_ble_eq_true rfl)
  rw [lg_entry_eq]
  generalize (lg_sl ([.ref h0, .int i]) ++ List.replicate (2 - (lg_sl ([.ref h0, .int i])).length) Slot.unset).toArray = ls at hl ⊢
  have hl : lv_has ls 2 [(0, .ref h0), (1, .int i)] := hl
  refine lv_iload_n hx hb dX0_finding_0 rfl (lv_at hl 1 rfl) ?_
  refine lv_if_lt (tgt := 30) hx hb dX0_finding_1 (by decide) (fun c_1 => ?_) (fun c_1 => ?_)
  · refine lv_iconst (v := (-1)) hx hb dX0_finding_30 (by decide) ?_
    have hP9 := hP.sub (ws' := [(h0, .inr (1, [.ref h1, .int (nI w), .int gr, .int bt, .int jo])), (h1, .inl (cy 1, 10, .inl f))]) [0, 1] rfl
    have hD9 := hD.sub (ws' := [(h0, .inr (1, [.ref h1, .int (nI w), .int gr, .int bt, .int jo])), (h1, .inl (cy 1, 10, .inl f))]) [0, 1] (by decide) rfl
    exact W.iret (v := (-1)) hx hb hr (fun t ht hW => ⟨⟨(-1), (), rfl, hi_f_lo c_1, by rw [ht]; exact hP9, hD9⟩, hS.F ht⟩) hS.2.2 dX0_finding_31
  · refine lv_iload_n hx hb dX0_finding_4 rfl (lv_at hl 1 rfl) ?_
    refine lv_aload_n hx hb dX0_finding_5 rfl (lv_at hl 0 rfl) ?_
    refine va_get (D := D) (ci := 1) (v := .int (nI w)) (C := RX0) (T := TX0) (N := 5) hx hb hts iw_X0_finding_X0 hown hK hP 0 rfl rfl 1 (by decide) (hts _ lk_X0_finding_f19) (fun _ h9 => h9) rfl dX0_finding_6 ?_
    refine lv_icmp_ge (tgt := 30) hx hb dX0_finding_9 (by decide) (fun c_9 => ?_) (fun c_9 => ?_)
    · refine lv_iconst (v := (-1)) hx hb dX0_finding_30 (by decide) ?_
      have hP9 := hP.sub (ws' := [(h0, .inr (1, [.ref h1, .int (nI w), .int gr, .int bt, .int jo])), (h1, .inl (cy 1, 10, .inl f))]) [0, 1] rfl
      have hD9 := hD.sub (ws' := [(h0, .inr (1, [.ref h1, .int (nI w), .int gr, .int bt, .int jo])), (h1, .inl (cy 1, 10, .inl f))]) [0, 1] (by decide) rfl
      exact W.iret (v := (-1)) hx hb hr (fun t ht hW => ⟨⟨(-1), (), rfl, hi_f_hi hw9 c_9, by rw [ht]; exact hP9, hD9⟩, hS.F ht⟩) hS.2.2 dX0_finding_31
    · refine lv_iload_n hx hb dX0_finding_12 rfl (lv_at hl 1 rfl) ?_
      refine lv_aload_n hx hb dX0_finding_13 rfl (lv_at hl 0 rfl) ?_
      refine va_get (D := D) (ci := 1) (v := .ref h1) (C := RX0) (T := TX0) (N := 5) hx hb hts iw_X0_finding_X0 hown hK hP 0 rfl rfl 0 (by decide) (hts _ lk_X0_finding_f9) (fun _ h9 => h9) rfl dX0_finding_14 ?_
      refine va_alen hx hb hK hP 1 1 rfl rfl (v := 10) rfl dX0_finding_17 ?_
      refine lv_icmp_ge (tgt := 30) hx hb dX0_finding_18 (by decide) (fun c_18 => ?_) (fun c_18 => ?_)
      · refine lv_iconst (v := (-1)) hx hb dX0_finding_30 (by decide) ?_
        have hP9 := hP.sub (ws' := [(h0, .inr (1, [.ref h1, .int (nI w), .int gr, .int bt, .int jo])), (h1, .inl (cy 1, 10, .inl f))]) [0, 1] rfl
        have hD9 := hD.sub (ws' := [(h0, .inr (1, [.ref h1, .int (nI w), .int gr, .int bt, .int jo])), (h1, .inl (cy 1, 10, .inl f))]) [0, 1] (by decide) rfl
        exact W.iret (v := (-1)) hx hb hr (fun t ht hW => ⟨⟨(-1), (), rfl, hi_f_10 hw9 c_18, by rw [ht]; exact hP9, hD9⟩, hS.F ht⟩) hS.2.2 dX0_finding_31
      · refine lv_aload_n hx hb dX0_finding_21 rfl (lv_at hl 0 rfl) ?_
        refine va_get (D := D) (ci := 1) (v := .ref h1) (C := RX0) (T := TX0) (N := 5) hx hb hts iw_X0_finding_X0 hown hK hP 0 rfl rfl 0 (by decide) (hts _ lk_X0_finding_f9) (fun _ h9 => h9) rfl dX0_finding_22 ?_
        refine lv_iload_n hx hb dX0_finding_25 rfl (lv_at hl 1 rfl) ?_
        refine va_iald hx hb hK hP 1 1 rfl rfl (hi_f_vp hw9 c_1 c_9) dX0_finding_26 ?_
        refine lv_goto (tgt := 31) hx hb dX0_finding_27 (by decide) ?_
        have hP9 := hP.sub (ws' := [(h0, .inr (1, [.ref h1, .int (nI w), .int gr, .int bt, .int jo])), (h1, .inl (cy 1, 10, .inl f))]) [0, 1] rfl
        have hD9 := hD.sub (ws' := [(h0, .inr (1, [.ref h1, .int (nI w), .int gr, .int bt, .int jo])), (h1, .inl (cy 1, 10, .inl f))]) [0, 1] (by decide) rfl
        exact W.iret (v := f i.toNatClampNeg) hx hb hr (fun t ht hW => ⟨⟨f i.toNatClampNeg, (), rfl, hi_f_in hw9 c_1 c_9, by rw [ht]; exact hP9, hD9⟩, hS.F ht⟩) hS.2.2 dX0_finding_31

theorem lk_X0_countOfLast_iniX5 : (.initialized RX5 : Cond) ∈ wsX0_countOfLast := by decide +kernel
theorem lk_X0_countOfLast_isyX5_sideOf : (.static yX5_sideOf : Cond) ∈ wsX0_countOfLast := by decide +kernel
set_option maxHeartbeats 4000000 in
set_option maxRecDepth 100000 in
theorem c_X0_countOfLast (l : Launch) (D : va_G) (cy : Nat → ClassId) (sz : Nat) (h0 : Nat) (h1 : Nat) (f : Nat → Int32) (w : Nat) (gr : Int32) (bt : Int32) (jo : Int32) (z : Nat) (y : Int32) (hw9 : w ≤ 10) (hz9 : z ≤ 10) : Met l yX0_countOfLast wsX0_countOfLast ({ frames := 1, cells := 0, slots := 0, locals := 21 } : Room) (pre1 D cy [.ref h0, .int (nI z), .int y] [(h0, .inr (1, [.ref h1, .int (nI w), .int gr, .int bt, .int jo])), (h1, .inl (cy 1, 10, .inl f))] sz) (va_Qi (fun (r : Int32) (u : Unit) => r = nI (hi_c f w y z)) (fun u t => va_P D vwCl [(h0, .inr (1, [.ref h1, .int (nI w), .int gr, .int bt, .int jo])), (h1, .inl (cy 1, 10, .inl f))] t.heap ∧ va_D (va_A [(h0, .inr (1, [.ref h1, .int (nI w), .int gr, .int bt, .int jo])), (h1, .inl (cy 1, 10, .inl f))] sz) [(h0, .inr (1, [.ref h1, .int (nI w), .int gr, .int bt, .int jo])), (h1, .inl (cy 1, 10, .inl f))]) (va_A [(h0, .inr (1, [.ref h1, .int (nI w), .int gr, .int bt, .int jo])), (h1, .inl (cy 1, 10, .inl f))] sz)) 0 0 (va_A [(h0, .inr (1, [.ref h1, .int (nI w), .int gr, .int bt, .int jo])), (h1, .inl (cy 1, 10, .inl f))] sz) := by
  refine Met.ofW (cc := cX0_countOfLast) (maxL := 5) (ret := (some .int)) (by decide) rfl ?_
  intro p e s m args below meth c s₁ B hml hv
  obtain ⟨rfl, hsz, hP, hkk, hD0⟩ := hv
  have hx := B.exec
  have hb := B.bytes
  have hr := B.returns
  have hts := atoms_spec (ws := wsX0_countOfLast) B.pre
  have hown : s.vm.findClass RX0 = some m.cls := findClass_of_methodNamed B.named
  have hlocks := B.notSynchronized
  have hin : meth.name = _ := (name_of_methodNamed B.named B.method).1
  have hK := hkk.1
  subst hsz
  have hD := hD0.self (sz := s.heap.size)
  generalize hAe : va_A [(h0, .inr (1, [.ref h1, .int (nI w), .int gr, .int bt, .int jo])), (h1, .inl (cy 1, 10, .inl f))] s.heap.size = A at hD ⊢
  have hA : ∀ q : Nat, s.heap.size ≤ q → A q := fun q h => by rw [← hAe]; exact Or.inr h
  have hS : va_S A s.heap s.heap [] := va_S.rf
  have hP : va_P D vwCl [(h0, .inr (1, [.ref h1, .int (nI w), .int gr, .int bt, .int jo])), (h1, .inl (cy 1, 10, .inl f))] s.heap := hP
  have hl := lv_entry ([.ref h0, .int (nI z), .int y]) (n := 5) (Nat.le_of_ble_eq_true rfl)
  rw [lg_entry_eq]
  generalize (lg_sl ([.ref h0, .int (nI z), .int y]) ++ List.replicate (5 - (lg_sl ([.ref h0, .int (nI z), .int y])).length) Slot.unset).toArray = ls at hl ⊢
  have hl : lv_has ls 5 [(0, .ref h0), (1, .int (nI z)), (2, .int y)] := hl
  refine lv_iconst (v := 0) hx hb dX0_countOfLast_0 (by decide) ?_
  refine lv_topi (fun x_0 ex_0 => ?_)
  obtain rfl : x_0 = nI (hi_c f w y 0) := by rw [ex_0]; exact (congrArg nI hi_c_0).symm
  refine lv_istore_n (lv' := [(3, .int (nI (hi_c f w y 0))), (0, .ref h0), (1, .int (nI z)), (2, .int y)]) hx hb dX0_countOfLast_1 rfl hl (by decide) rfl (fun ls hl => ?_)
  refine lv_iconst (v := 0) hx hb dX0_countOfLast_2 (by decide) ?_
  refine lv_topi (fun x_2 ex_2 => ?_)
  obtain rfl : x_2 = nI 0 := by rw [ex_2]; exact nI_0.symm
  refine lv_istore (lv' := [(4, .int (nI 0)), (3, .int (nI (hi_c f w y 0))), (0, .ref h0), (1, .int (nI z)), (2, .int y)]) hx hb dX0_countOfLast_3 hl (by decide) rfl (fun ls hl => ?_)
  have cut_5 : ∀ (N : Nat) (k : Nat) (H : Heap) (locs : List Loc), z - k < N → k ≤ z → va_P D vwCl [(h0, .inr (1, [.ref h1, .int (nI w), .int gr, .int bt, .int jo])), (h1, .inl (cy 1, 10, .inl f))] H → va_D A [(h0, .inr (1, [.ref h1, .int (nI w), .int gr, .int bt, .int jo])), (h1, .inl (cy 1, 10, .inl f))] → va_S A s.heap H locs → ∀ (ls : Array Slot), lv_has ls 5 [(0, .ref h0), (1, .int (nI z)), (2, .int y), (3, .int (nI (hi_c f w y k))), (4, .int (nI k))] → W p l e (headSpec wsX0_countOfLast ({ frames := 1, cells := 0, slots := 0, locals := 21 } : Room)).room s m [.ref h0, .int (nI z), .int y].toArray below meth c H locs 0 0 (MQ below (va_Qi (fun (r : Int32) (u : Unit) => r = nI (hi_c f w y z)) (fun u t => va_P D vwCl [(h0, .inr (1, [.ref h1, .int (nI w), .int gr, .int bt, .int jo])), (h1, .inl (cy 1, 10, .inl f))] t.heap ∧ va_D A [(h0, .inr (1, [.ref h1, .int (nI w), .int gr, .int bt, .int jo])), (h1, .inl (cy 1, 10, .inl f))]) A) [.ref h0, .int (nI z), .int y].toArray s 0 0 A) (F0 m 5 ls []) := by
    intro N
    induction N with
    | zero => intro k H locs hN; exact absurd hN (Nat.not_lt_zero _)
    | succ N ih =>
      intro k H locs hN hk hP hD hS ls hl
      refine lv_iload hx hb dX0_countOfLast_5 (lv_at hl 4 rfl) ?_
      refine lv_iload_n hx hb dX0_countOfLast_7 rfl (lv_at hl 1 rfl) ?_
      refine lv_icmp_ge (tgt := 33) hx hb dX0_countOfLast_8 (by decide) (fun c_8 => ?_) (fun c_8 => ?_)
      · obtain rfl : z = k := Nat.le_antisymm ((oc_ltN (by omega) (by omega)).mp c_8) hk
        refine lv_iload_n hx hb dX0_countOfLast_33 rfl (lv_at hl 3 rfl) ?_
        have hP9 := hP.sub (ws' := [(h0, .inr (1, [.ref h1, .int (nI w), .int gr, .int bt, .int jo])), (h1, .inl (cy 1, 10, .inl f))]) [0, 1] rfl
        have hD9 := hD.sub (ws' := [(h0, .inr (1, [.ref h1, .int (nI w), .int gr, .int bt, .int jo])), (h1, .inl (cy 1, 10, .inl f))]) [0, 1] (by decide) rfl
        exact W.iret (v := nI (hi_c f w y z)) hx hb hr (fun t ht hW => ⟨⟨nI (hi_c f w y z), (), rfl, rfl, by rw [ht]; exact hP9, hD9⟩, hS.F ht⟩) hS.2.2 dX0_countOfLast_34
      · have hkm : k < z := Nat.not_le.mp fun q => c_8 ((oc_ltN (by omega) (by omega)).mpr q)
        refine lv_aload_n hx hb dX0_countOfLast_11 rfl (lv_at hl 0 rfl) ?_
        refine lv_iload hx hb dX0_countOfLast_12 (lv_at hl 4 rfl) ?_
        have hPc := hP.sub (ws' := [(h0, .inr (1, [.ref h1, .int (nI w), .int gr, .int bt, .int jo])), (h1, .inl (cy 1, 10, .inl f))]) [0, 1] rfl
        have hDc := hD.sub (ws' := [(h0, .inr (1, [.ref h1, .int (nI w), .int gr, .int bt, .int jo])), (h1, .inl (cy 1, 10, .inl f))]) [0, 1] (by decide) rfl
        have hFc := va_free (wc := [(h0, .inr (1, [.ref h1, .int (nI w), .int gr, .int bt, .int jo])), (h1, .inl (cy 1, 10, .inl f))]) hD hS hA [0, 1] rfl
        refine va_calli (va_runV (As := [.int (nI k)]) (rest := []) ⟨hx, hb, hml, hown, hts⟩ (c_X0_finding l D cy H.size h0 h1 f w gr bt jo (nI k) (by first | assumption | omega)) (cwV 1 hts gX0_countOfLast_X0_finding rfl rfl rfl (by decide +kernel) ⟨Nat.le_of_ble_eq_true rfl, Nat.le_of_ble_eq_true rfl⟩) (pv_V (ci := 1) (q := (RX0, TX0, 5)) hkk hPc hDc rfl rfl rfl) rfl rfl hl.1 rfl (lv_room (Nat.le_of_ble_eq_true rfl)) dX0_countOfLast_14 ⟨Nat.le_of_ble_eq_true rfl, Nat.le_of_ble_eq_true rfl⟩) hS (fun q _ h => hFc q h) hFc (fun r_14 u t H1 locs ht hvm hw hB hz1 hk1 hS => ?_)
        obtain ⟨hP1, hD1⟩ := hB
        rw [ht] at hP1
        try dsimp only at hw hP1 hD1
        obtain ⟨hP, hD⟩ := va_join (wr := []) (w1 := [(h0, .inr (1, [.ref h1, .int (nI w), .int gr, .int bt, .int jo])), (h1, .inl (cy 1, 10, .inl f))]) hP hD [0, 1] [] rfl rfl (by decide) (by decide) hk1 hFc hP1 hD1
        clear hPc hDc hFc hP1 hD1 hz1 hk1
        generalize H1 = H at hP hS ⊢
        have hP : va_P D vwCl [(h0, .inr (1, [.ref h1, .int (nI w), .int gr, .int bt, .int jo])), (h1, .inl (cy 1, 10, .inl f))] H := hP
        have hD : va_D A [(h0, .inr (1, [.ref h1, .int (nI w), .int gr, .int bt, .int jo])), (h1, .inl (cy 1, 10, .inl f))] := hD
        obtain rfl := hw
        have hPc := hP.sub (ws' := []) [] rfl
        have hDc := hD.sub (ws' := []) [] (by decide) rfl
        have hFc := va_free (wc := []) hD hS hA [] rfl
        refine va_calli (va_runSN (As := [.int (hi_f f w (nI k))]) (rest := []) ⟨hx, hb, hml, hown, hts⟩ (c_X5_sideOf l D cy H.size (hi_f f w (nI k)) ) ⟨va_cnB 1 hts gX0_countOfLast_X5_sideOf_n28 rfl rfl rfl (nw_get 12 rfl hkk.2) (hts _ lk_X0_countOfLast_iniX5) (by decide +kernel) ⟨Nat.le_of_ble_eq_true rfl, Nat.le_of_ble_eq_true rfl⟩, (hts _ lk_X0_countOfLast_isyX5_sideOf), trivial⟩ (pv_S hkk hPc hDc rfl) rfl rfl hl.1 rfl (lv_room (Nat.le_of_ble_eq_true rfl)) dX0_countOfLast_17 ⟨Nat.le_of_ble_eq_true rfl, Nat.le_of_ble_eq_true rfl⟩) hS (fun q _ h => hFc q h) hFc (fun r_17 u t H1 locs ht hvm hw hB hz1 hk1 hS => ?_)
        obtain ⟨hP1, hD1⟩ := hB
        rw [ht] at hP1
        try dsimp only at hw hP1 hD1
        obtain ⟨hP, hD⟩ := va_join (wr := [(h0, .inr (1, [.ref h1, .int (nI w), .int gr, .int bt, .int jo])), (h1, .inl (cy 1, 10, .inl f))]) (w1 := []) hP hD [] [0, 1] rfl rfl (by decide) (by decide) hk1 hFc hP1 hD1
        clear hPc hDc hFc hP1 hD1 hz1 hk1
        generalize H1 = H at hP hS ⊢
        have hP : va_P D vwCl [(h0, .inr (1, [.ref h1, .int (nI w), .int gr, .int bt, .int jo])), (h1, .inl (cy 1, 10, .inl f))] H := hP
        have hD : va_D A [(h0, .inr (1, [.ref h1, .int (nI w), .int gr, .int bt, .int jo])), (h1, .inl (cy 1, 10, .inl f))] := hD
        obtain rfl := hw
        refine lv_iload_n hx hb dX0_countOfLast_20 rfl (lv_at hl 2 rfl) ?_
        refine lv_icmp_ne (tgt := 27) hx hb dX0_countOfLast_21 (by decide) (fun c_21 => ?_) (fun c_21 => ?_)
        · rw [hi_c_n c_21] at hl
          refine lv_iinc (v := nI (k + 1)) (lv' := [(4, .int (nI (k + 1))), (0, .ref h0), (1, .int (nI z)), (2, .int y), (3, .int (nI (hi_c f w y (k + 1))))]) hx hb dX0_countOfLast_27 hl (k := 4) rfl (nI_1 k) (by decide) rfl (fun ls hl => ?_)
          refine lv_goto (tgt := 5) hx hb dX0_countOfLast_30 (by decide) ?_
          exact ih (k + 1) _ _ (by omega) (by omega) hP hD hS _ (lv_sub hl [1, 2, 3, 4, 0] rfl)
        · refine lv_iinc (v := nI (hi_c f w y k + 1)) (lv' := [(3, .int (nI (hi_c f w y k + 1))), (0, .ref h0), (1, .int (nI z)), (2, .int y), (4, .int (nI k))]) hx hb dX0_countOfLast_24 hl (k := 3) rfl (nI_1 _) (by decide) rfl (fun ls hl => ?_)
          rw [hi_c_y c_21] at hl
          refine lv_iinc (v := nI (k + 1)) (lv' := [(4, .int (nI (k + 1))), (3, .int (nI (hi_c f w y (k + 1)))), (0, .ref h0), (1, .int (nI z)), (2, .int y)]) hx hb dX0_countOfLast_27 hl (k := 4) rfl (nI_1 k) (by decide) rfl (fun ls hl => ?_)
          refine lv_goto (tgt := 5) hx hb dX0_countOfLast_30 (by decide) ?_
          exact ih (k + 1) _ _ (by omega) (by omega) hP hD hS _ (lv_sub hl [2, 3, 4, 1, 0] rfl)
  exact cut_5 _ 0 _ _ (Nat.lt_succ_self _) (Nat.zero_le _) hP hD hS _ (lv_sub hl [2, 3, 4, 1, 0] rfl)


set_option maxHeartbeats 4000000 in
set_option maxRecDepth 100000 in
theorem c_X0_joinedAfter (l : Launch) (D : va_G) (cy : Nat → ClassId) (sz : Nat) (h0 : Nat) (h1 : Nat) (f : Nat → Int32) (w : Nat) (gr : Int32) (bt : Int32) (jo : Int32) (b : Int32) (hw9 : w ≤ 10) : Met l yX0_joinedAfter wsX0_joinedAfter ({ frames := 2, cells := 0, slots := 0, locals := 45 } : Room) (pre1 D cy [.ref h0, .int b] [(h0, .inr (1, [.ref h1, .int (nI w), .int gr, .int bt, .int jo])), (h1, .inl (cy 1, 10, .inl f))] sz) (va_Qi (fun (r : Int32) (u : Unit) => r = hi_j f w b) (fun u t => va_P D vwCl [(h0, .inr (1, [.ref h1, .int (nI w), .int gr, .int bt, .int jo])), (h1, .inl (cy 1, 10, .inl f))] t.heap ∧ va_D (va_A [(h0, .inr (1, [.ref h1, .int (nI w), .int gr, .int bt, .int jo])), (h1, .inl (cy 1, 10, .inl f))] sz) [(h0, .inr (1, [.ref h1, .int (nI w), .int gr, .int bt, .int jo])), (h1, .inl (cy 1, 10, .inl f))]) (va_A [(h0, .inr (1, [.ref h1, .int (nI w), .int gr, .int bt, .int jo])), (h1, .inl (cy 1, 10, .inl f))] sz)) 0 0 (va_A [(h0, .inr (1, [.ref h1, .int (nI w), .int gr, .int bt, .int jo])), (h1, .inl (cy 1, 10, .inl f))] sz) := by
  refine Met.ofW (cc := cX0_joinedAfter) (maxL := 4) (ret := (some .int)) (by decide) rfl ?_
  intro p e s m args below meth c s₁ B hml hv
  obtain ⟨rfl, hsz, hP, hkk, hD0⟩ := hv
  have hx := B.exec
  have hb := B.bytes
  have hr := B.returns
  have hts := atoms_spec (ws := wsX0_joinedAfter) B.pre
  have hown : s.vm.findClass RX0 = some m.cls := findClass_of_methodNamed B.named
  have hlocks := B.notSynchronized
  have hin : meth.name = _ := (name_of_methodNamed B.named B.method).1
  have hK := hkk.1
  subst hsz
  have hD := hD0.self (sz := s.heap.size)
  generalize hAe : va_A [(h0, .inr (1, [.ref h1, .int (nI w), .int gr, .int bt, .int jo])), (h1, .inl (cy 1, 10, .inl f))] s.heap.size = A at hD ⊢
  have hA : ∀ q : Nat, s.heap.size ≤ q → A q := fun q h => by rw [← hAe]; exact Or.inr h
  have hS : va_S A s.heap s.heap [] := va_S.rf
  have hP : va_P D vwCl [(h0, .inr (1, [.ref h1, .int (nI w), .int gr, .int bt, .int jo])), (h1, .inl (cy 1, 10, .inl f))] s.heap := hP
  have hl := lv_entry ([.ref h0, .int b]) (n := 4) (Nat.le_of_ble_eq_true rfl)
  rw [lg_entry_eq]
  generalize (lg_sl ([.ref h0, .int b]) ++ List.replicate (4 - (lg_sl ([.ref h0, .int b])).length) Slot.unset).toArray = ls at hl ⊢
  have hl : lv_has ls 4 [(0, .ref h0), (1, .int b)] := hl
  refine lv_aload_n hx hb dX0_joinedAfter_0 rfl (lv_at hl 0 rfl) ?_
  refine lv_bipush (v := 10) hx hb dX0_joinedAfter_1 (by decide) ?_
  refine lv_topi (fun x_1 ex_1 => ?_)
  obtain rfl : x_1 = nI 10 := by rw [ex_1]; decide
  refine lv_iconst (v := 2) hx hb dX0_joinedAfter_3 (by decide) ?_
  have hPc := hP.sub (ws' := [(h0, .inr (1, [.ref h1, .int (nI w), .int gr, .int bt, .int jo])), (h1, .inl (cy 1, 10, .inl f))]) [0, 1] rfl
  have hDc := hD.sub (ws' := [(h0, .inr (1, [.ref h1, .int (nI w), .int gr, .int bt, .int jo])), (h1, .inl (cy 1, 10, .inl f))]) [0, 1] (by decide) rfl
  have hFc := va_free (wc := [(h0, .inr (1, [.ref h1, .int (nI w), .int gr, .int bt, .int jo])), (h1, .inl (cy 1, 10, .inl f))]) hD hS hA [0, 1] rfl
  refine va_calli (va_runV (As := [.int (nI 10), .int 2]) (rest := []) ⟨hx, hb, hml, hown, hts⟩ (c_X0_countOfLast l D cy s.heap.size h0 h1 f w gr bt jo 10 2 (by first | assumption | omega) (by decide)) (cwV 2 hts gX0_joinedAfter_X0_countOfLast rfl rfl rfl (by decide +kernel) ⟨Nat.le_of_ble_eq_true rfl, Nat.le_of_ble_eq_true rfl⟩) (pv_V (ci := 1) (q := (RX0, TX0, 5)) hkk hPc hDc rfl rfl rfl) rfl rfl hl.1 rfl (lv_room (Nat.le_of_ble_eq_true rfl)) dX0_joinedAfter_4 ⟨Nat.le_of_ble_eq_true rfl, Nat.le_of_ble_eq_true rfl⟩) hS (fun q _ h => hFc q h) hFc (fun r_4 u t H1 locs ht hvm hw hB hz1 hk1 hS => ?_)
  obtain ⟨hP1, hD1⟩ := hB
  rw [ht] at hP1
  try dsimp only at hw hP1 hD1
  obtain ⟨hP, hD⟩ := va_join (wr := []) (w1 := [(h0, .inr (1, [.ref h1, .int (nI w), .int gr, .int bt, .int jo])), (h1, .inl (cy 1, 10, .inl f))]) hP hD [0, 1] [] rfl rfl (by decide) (by decide) hk1 hFc hP1 hD1
  clear hPc hDc hFc hP1 hD1 hz1 hk1
  generalize H1 = H at hP hS ⊢
  have hP : va_P D vwCl [(h0, .inr (1, [.ref h1, .int (nI w), .int gr, .int bt, .int jo])), (h1, .inl (cy 1, 10, .inl f))] H := hP
  have hD : va_D A [(h0, .inr (1, [.ref h1, .int (nI w), .int gr, .int bt, .int jo])), (h1, .inl (cy 1, 10, .inl f))] := hD
  obtain rfl := hw
  refine lv_iconst (v := 3) hx hb dX0_joinedAfter_7 (by decide) ?_
  refine lv_icmp_lt (tgt := 13) hx hb dX0_joinedAfter_8 (by decide) (fun c_8 => ?_) (fun c_8 => ?_)
  · refine lv_aload_n hx hb dX0_joinedAfter_13 rfl (lv_at hl 0 rfl) ?_
    refine lv_bipush (v := 10) hx hb dX0_joinedAfter_14 (by decide) ?_
    refine lv_topi (fun x_14 ex_14 => ?_)
    obtain rfl : x_14 = nI 10 := by rw [ex_14]; decide
    refine lv_iconst (v := 1) hx hb dX0_joinedAfter_16 (by decide) ?_
    have hPc := hP.sub (ws' := [(h0, .inr (1, [.ref h1, .int (nI w), .int gr, .int bt, .int jo])), (h1, .inl (cy 1, 10, .inl f))]) [0, 1] rfl
    have hDc := hD.sub (ws' := [(h0, .inr (1, [.ref h1, .int (nI w), .int gr, .int bt, .int jo])), (h1, .inl (cy 1, 10, .inl f))]) [0, 1] (by decide) rfl
    have hFc := va_free (wc := [(h0, .inr (1, [.ref h1, .int (nI w), .int gr, .int bt, .int jo])), (h1, .inl (cy 1, 10, .inl f))]) hD hS hA [0, 1] rfl
    refine va_calli (va_runV (As := [.int (nI 10), .int 1]) (rest := []) ⟨hx, hb, hml, hown, hts⟩ (c_X0_countOfLast l D cy H.size h0 h1 f w gr bt jo 10 1 (by first | assumption | omega) (by decide)) (cwV 2 hts gX0_joinedAfter_X0_countOfLast rfl rfl rfl (by decide +kernel) ⟨Nat.le_of_ble_eq_true rfl, Nat.le_of_ble_eq_true rfl⟩) (pv_V (ci := 1) (q := (RX0, TX0, 5)) hkk hPc hDc rfl rfl rfl) rfl rfl hl.1 rfl (lv_room (Nat.le_of_ble_eq_true rfl)) dX0_joinedAfter_17 ⟨Nat.le_of_ble_eq_true rfl, Nat.le_of_ble_eq_true rfl⟩) hS (fun q _ h => hFc q h) hFc (fun r_17 u t H1 locs ht hvm hw hB hz1 hk1 hS => ?_)
    obtain ⟨hP1, hD1⟩ := hB
    rw [ht] at hP1
    try dsimp only at hw hP1 hD1
    obtain ⟨hP, hD⟩ := va_join (wr := []) (w1 := [(h0, .inr (1, [.ref h1, .int (nI w), .int gr, .int bt, .int jo])), (h1, .inl (cy 1, 10, .inl f))]) hP hD [0, 1] [] rfl rfl (by decide) (by decide) hk1 hFc hP1 hD1
    clear hPc hDc hFc hP1 hD1 hz1 hk1
    generalize H1 = H at hP hS ⊢
    have hP : va_P D vwCl [(h0, .inr (1, [.ref h1, .int (nI w), .int gr, .int bt, .int jo])), (h1, .inl (cy 1, 10, .inl f))] H := hP
    have hD : va_D A [(h0, .inr (1, [.ref h1, .int (nI w), .int gr, .int bt, .int jo])), (h1, .inl (cy 1, 10, .inl f))] := hD
    obtain rfl := hw
    refine lv_iconst (v := 3) hx hb dX0_joinedAfter_20 (by decide) ?_
    refine lv_icmp_lt (tgt := 28) hx hb dX0_joinedAfter_21 (by decide) (fun c_21 => ?_) (fun c_21 => ?_)
    · refine lv_iconst (v := 0) hx hb dX0_joinedAfter_28 (by decide) ?_
      refine lv_istore_n (lv' := [(2, .int 0), (0, .ref h0), (1, .int b)]) hx hb dX0_joinedAfter_29 rfl hl (by decide) rfl (fun ls hl => ?_)
      refine lv_aload_n hx hb dX0_joinedAfter_30 rfl (lv_at hl 1 rfl) ?_
      refine lv_iconst (v := 3) hx hb dX0_joinedAfter_31 (by decide) ?_
      refine lv_topi (fun x_31 ex_31 => ?_)
      obtain rfl : x_31 = nI 3 := by rw [ex_31]; decide
      refine lv_iconst (v := 1) hx hb dX0_joinedAfter_32 (by decide) ?_
      have hPc := hP.sub (ws' := [(h0, .inr (1, [.ref h1, .int (nI w), .int gr, .int bt, .int jo])), (h1, .inl (cy 1, 10, .inl f))]) [0, 1] rfl
      have hDc := hD.sub (ws' := [(h0, .inr (1, [.ref h1, .int (nI w), .int gr, .int bt, .int jo])), (h1, .inl (cy 1, 10, .inl f))]) [0, 1] (by decide) rfl
      have hFc := va_free (wc := [(h0, .inr (1, [.ref h1, .int (nI w), .int gr, .int bt, .int jo])), (h1, .inl (cy 1, 10, .inl f))]) hD hS hA [0, 1] rfl
      refine va_calli (va_runV (As := [.int (nI 3), .int 1]) (rest := []) ⟨hx, hb, hml, hown, hts⟩ (c_X0_countOfLast l D cy H.size h0 h1 f w gr bt jo 3 1 (by first | assumption | omega) (by decide)) (cwV 2 hts gX0_joinedAfter_X0_countOfLast rfl rfl rfl (by decide +kernel) ⟨Nat.le_of_ble_eq_true rfl, Nat.le_of_ble_eq_true rfl⟩) (pv_V (ci := 1) (q := (RX0, TX0, 5)) hkk hPc hDc rfl rfl rfl) rfl rfl hl.1 rfl (lv_room (Nat.le_of_ble_eq_true rfl)) dX0_joinedAfter_33 ⟨Nat.le_of_ble_eq_true rfl, Nat.le_of_ble_eq_true rfl⟩) hS (fun q _ h => hFc q h) hFc (fun r_33 u t H1 locs ht hvm hw hB hz1 hk1 hS => ?_)
      obtain ⟨hP1, hD1⟩ := hB
      rw [ht] at hP1
      try dsimp only at hw hP1 hD1
      obtain ⟨hP, hD⟩ := va_join (wr := []) (w1 := [(h0, .inr (1, [.ref h1, .int (nI w), .int gr, .int bt, .int jo])), (h1, .inl (cy 1, 10, .inl f))]) hP hD [0, 1] [] rfl rfl (by decide) (by decide) hk1 hFc hP1 hD1
      clear hPc hDc hFc hP1 hD1 hz1 hk1
      generalize H1 = H at hP hS ⊢
      have hP : va_P D vwCl [(h0, .inr (1, [.ref h1, .int (nI w), .int gr, .int bt, .int jo])), (h1, .inl (cy 1, 10, .inl f))] H := hP
      have hD : va_D A [(h0, .inr (1, [.ref h1, .int (nI w), .int gr, .int bt, .int jo])), (h1, .inl (cy 1, 10, .inl f))] := hD
      obtain rfl := hw
      refine lv_iconst (v := 3) hx hb dX0_joinedAfter_36 (by decide) ?_
      refine lv_icmp_ne (tgt := 44) hx hb dX0_joinedAfter_37 (by decide) (fun c_37 => ?_) (fun c_37 => ?_)
      · refine lv_iconst (v := 0) hx hb dX0_joinedAfter_44 (by decide) ?_
        refine lv_istore_n (lv' := [(3, .int 0), (2, .int 0), (0, .ref h0), (1, .int b)]) hx hb dX0_joinedAfter_45 rfl hl (by decide) rfl (fun ls hl => ?_)
        refine lv_iload_n hx hb dX0_joinedAfter_46 rfl (lv_at hl 1 rfl) ?_
        refine lv_if_eq (tgt := 68) hx hb dX0_joinedAfter_47 (by decide) (fun c_47 => ?_) (fun c_47 => ?_)
        · refine lv_iload_n hx hb dX0_joinedAfter_68 rfl (lv_at hl 3 rfl) ?_
          have hP9 := hP.sub (ws' := [(h0, .inr (1, [.ref h1, .int (nI w), .int gr, .int bt, .int jo])), (h1, .inl (cy 1, 10, .inl f))]) [0, 1] rfl
          have hD9 := hD.sub (ws' := [(h0, .inr (1, [.ref h1, .int (nI w), .int gr, .int bt, .int jo])), (h1, .inl (cy 1, 10, .inl f))]) [0, 1] (by decide) rfl
          exact W.iret (v := b) hx hb hr (fun t ht hW => ⟨⟨b, (), rfl, hi_j_c (Nat.not_le.mpr ((hi_lt3 (hi_c_le 10)).mp c_8)) (fun q => Nat.not_le.mpr ((hi_lt3 (hi_c_le 10)).mp c_21) q.1), by rw [ht]; exact hP9, hD9⟩, hS.F ht⟩) hS.2.2 dX0_joinedAfter_69
        · exact absurd c_47 (by decide)
      · refine lv_iconst (v := 1) hx hb dX0_joinedAfter_40 (by decide) ?_
        refine lv_goto (tgt := 45) hx hb dX0_joinedAfter_41 (by decide) ?_
        refine lv_istore_n (lv' := [(3, .int 1), (2, .int 0), (0, .ref h0), (1, .int b)]) hx hb dX0_joinedAfter_45 rfl hl (by decide) rfl (fun ls hl => ?_)
        refine lv_iload_n hx hb dX0_joinedAfter_46 rfl (lv_at hl 1 rfl) ?_
        refine lv_if_eq (tgt := 68) hx hb dX0_joinedAfter_47 (by decide) (fun c_47 => ?_) (fun c_47 => ?_)
        · refine lv_iload_n hx hb dX0_joinedAfter_68 rfl (lv_at hl 3 rfl) ?_
          have hP9 := hP.sub (ws' := [(h0, .inr (1, [.ref h1, .int (nI w), .int gr, .int bt, .int jo])), (h1, .inl (cy 1, 10, .inl f))]) [0, 1] rfl
          have hD9 := hD.sub (ws' := [(h0, .inr (1, [.ref h1, .int (nI w), .int gr, .int bt, .int jo])), (h1, .inl (cy 1, 10, .inl f))]) [0, 1] (by decide) rfl
          exact W.iret (v := b) hx hb hr (fun t ht hW => ⟨⟨b, (), rfl, hi_j_c (Nat.not_le.mpr ((hi_lt3 (hi_c_le 10)).mp c_8)) (fun q => Nat.not_le.mpr ((hi_lt3 (hi_c_le 10)).mp c_21) q.1), by rw [ht]; exact hP9, hD9⟩, hS.F ht⟩) hS.2.2 dX0_joinedAfter_69
        · exact absurd c_47 (by decide)
    · refine lv_iconst (v := 1) hx hb dX0_joinedAfter_24 (by decide) ?_
      refine lv_goto (tgt := 29) hx hb dX0_joinedAfter_25 (by decide) ?_
      refine lv_istore_n (lv' := [(2, .int 1), (0, .ref h0), (1, .int b)]) hx hb dX0_joinedAfter_29 rfl hl (by decide) rfl (fun ls hl => ?_)
      refine lv_aload_n hx hb dX0_joinedAfter_30 rfl (lv_at hl 1 rfl) ?_
      refine lv_iconst (v := 3) hx hb dX0_joinedAfter_31 (by decide) ?_
      refine lv_topi (fun x_31 ex_31 => ?_)
      obtain rfl : x_31 = nI 3 := by rw [ex_31]; decide
      refine lv_iconst (v := 1) hx hb dX0_joinedAfter_32 (by decide) ?_
      have hPc := hP.sub (ws' := [(h0, .inr (1, [.ref h1, .int (nI w), .int gr, .int bt, .int jo])), (h1, .inl (cy 1, 10, .inl f))]) [0, 1] rfl
      have hDc := hD.sub (ws' := [(h0, .inr (1, [.ref h1, .int (nI w), .int gr, .int bt, .int jo])), (h1, .inl (cy 1, 10, .inl f))]) [0, 1] (by decide) rfl
      have hFc := va_free (wc := [(h0, .inr (1, [.ref h1, .int (nI w), .int gr, .int bt, .int jo])), (h1, .inl (cy 1, 10, .inl f))]) hD hS hA [0, 1] rfl
      refine va_calli (va_runV (As := [.int (nI 3), .int 1]) (rest := []) ⟨hx, hb, hml, hown, hts⟩ (c_X0_countOfLast l D cy H.size h0 h1 f w gr bt jo 3 1 (by first | assumption | omega) (by decide)) (cwV 2 hts gX0_joinedAfter_X0_countOfLast rfl rfl rfl (by decide +kernel) ⟨Nat.le_of_ble_eq_true rfl, Nat.le_of_ble_eq_true rfl⟩) (pv_V (ci := 1) (q := (RX0, TX0, 5)) hkk hPc hDc rfl rfl rfl) rfl rfl hl.1 rfl (lv_room (Nat.le_of_ble_eq_true rfl)) dX0_joinedAfter_33 ⟨Nat.le_of_ble_eq_true rfl, Nat.le_of_ble_eq_true rfl⟩) hS (fun q _ h => hFc q h) hFc (fun r_33 u t H1 locs ht hvm hw hB hz1 hk1 hS => ?_)
      obtain ⟨hP1, hD1⟩ := hB
      rw [ht] at hP1
      try dsimp only at hw hP1 hD1
      obtain ⟨hP, hD⟩ := va_join (wr := []) (w1 := [(h0, .inr (1, [.ref h1, .int (nI w), .int gr, .int bt, .int jo])), (h1, .inl (cy 1, 10, .inl f))]) hP hD [0, 1] [] rfl rfl (by decide) (by decide) hk1 hFc hP1 hD1
      clear hPc hDc hFc hP1 hD1 hz1 hk1
      generalize H1 = H at hP hS ⊢
      have hP : va_P D vwCl [(h0, .inr (1, [.ref h1, .int (nI w), .int gr, .int bt, .int jo])), (h1, .inl (cy 1, 10, .inl f))] H := hP
      have hD : va_D A [(h0, .inr (1, [.ref h1, .int (nI w), .int gr, .int bt, .int jo])), (h1, .inl (cy 1, 10, .inl f))] := hD
      obtain rfl := hw
      refine lv_iconst (v := 3) hx hb dX0_joinedAfter_36 (by decide) ?_
      refine lv_icmp_ne (tgt := 44) hx hb dX0_joinedAfter_37 (by decide) (fun c_37 => ?_) (fun c_37 => ?_)
      · refine lv_iconst (v := 0) hx hb dX0_joinedAfter_44 (by decide) ?_
        refine lv_istore_n (lv' := [(3, .int 0), (2, .int 1), (0, .ref h0), (1, .int b)]) hx hb dX0_joinedAfter_45 rfl hl (by decide) rfl (fun ls hl => ?_)
        refine lv_iload_n hx hb dX0_joinedAfter_46 rfl (lv_at hl 1 rfl) ?_
        refine lv_if_eq (tgt := 68) hx hb dX0_joinedAfter_47 (by decide) (fun c_47 => ?_) (fun c_47 => ?_)
        · exact absurd c_47 (by decide)
        · refine lv_iload_n hx hb dX0_joinedAfter_50 rfl (lv_at hl 3 rfl) ?_
          refine lv_iconst (v := 1) hx hb dX0_joinedAfter_51 (by decide) ?_
          refine lv_icmp_eq (tgt := 64) hx hb dX0_joinedAfter_52 (by decide) (fun c_52 => ?_) (fun c_52 => ?_)
          · refine lv_iconst (v := 2) hx hb dX0_joinedAfter_64 (by decide) ?_
            refine lv_goto (tgt := 69) hx hb dX0_joinedAfter_65 (by decide) ?_
            have hP9 := hP.sub (ws' := [(h0, .inr (1, [.ref h1, .int (nI w), .int gr, .int bt, .int jo])), (h1, .inl (cy 1, 10, .inl f))]) [0, 1] rfl
            have hD9 := hD.sub (ws' := [(h0, .inr (1, [.ref h1, .int (nI w), .int gr, .int bt, .int jo])), (h1, .inl (cy 1, 10, .inl f))]) [0, 1] (by decide) rfl
            exact W.iret (v := 2) hx hb hr (fun t ht hW => ⟨⟨2, (), rfl, hi_j_b (Nat.not_le.mpr ((hi_lt3 (hi_c_le 10)).mp c_8)) (Nat.not_lt.mp fun q => c_21 ((hi_lt3 (hi_c_le 10)).mpr q)) (Or.inl c_52), by rw [ht]; exact hP9, hD9⟩, hS.F ht⟩) hS.2.2 dX0_joinedAfter_69
          · refine lv_iload_n hx hb dX0_joinedAfter_55 rfl (lv_at hl 3 rfl) ?_
            refine lv_iconst (v := 3) hx hb dX0_joinedAfter_56 (by decide) ?_
            refine lv_icmp_ne (tgt := 68) hx hb dX0_joinedAfter_57 (by decide) (fun c_57 => ?_) (fun c_57 => ?_)
            · refine lv_iload_n hx hb dX0_joinedAfter_68 rfl (lv_at hl 3 rfl) ?_
              have hP9 := hP.sub (ws' := [(h0, .inr (1, [.ref h1, .int (nI w), .int gr, .int bt, .int jo])), (h1, .inl (cy 1, 10, .inl f))]) [0, 1] rfl
              have hD9 := hD.sub (ws' := [(h0, .inr (1, [.ref h1, .int (nI w), .int gr, .int bt, .int jo])), (h1, .inl (cy 1, 10, .inl f))]) [0, 1] (by decide) rfl
              exact W.iret (v := b) hx hb hr (fun t ht hW => ⟨⟨b, (), rfl, hi_j_c (Nat.not_le.mpr ((hi_lt3 (hi_c_le 10)).mp c_8)) (fun q => q.2.elim c_52 (fun r => c_57 r.1)), by rw [ht]; exact hP9, hD9⟩, hS.F ht⟩) hS.2.2 dX0_joinedAfter_69
            · refine lv_iload_n hx hb dX0_joinedAfter_60 rfl (lv_at hl 0 rfl) ?_
              refine lv_if_eq (tgt := 68) hx hb dX0_joinedAfter_61 (by decide) (fun c_61 => ?_) (fun c_61 => ?_)
              · refine lv_iload_n hx hb dX0_joinedAfter_68 rfl (lv_at hl 3 rfl) ?_
                have hP9 := hP.sub (ws' := [(h0, .inr (1, [.ref h1, .int (nI w), .int gr, .int bt, .int jo])), (h1, .inl (cy 1, 10, .inl f))]) [0, 1] rfl
                have hD9 := hD.sub (ws' := [(h0, .inr (1, [.ref h1, .int (nI w), .int gr, .int bt, .int jo])), (h1, .inl (cy 1, 10, .inl f))]) [0, 1] (by decide) rfl
                exact W.iret (v := b) hx hb hr (fun t ht hW => ⟨⟨b, (), rfl, hi_j_c (Nat.not_le.mpr ((hi_lt3 (hi_c_le 10)).mp c_8)) (fun q => q.2.elim c_52 (fun r => c_37 ((hi_eq3 (Nat.le_trans (hi_c_le 3) (by decide))).mpr r.2))), by rw [ht]; exact hP9, hD9⟩, hS.F ht⟩) hS.2.2 dX0_joinedAfter_69
              · exact absurd c_61 (by decide)
      · refine lv_iconst (v := 1) hx hb dX0_joinedAfter_40 (by decide) ?_
        refine lv_goto (tgt := 45) hx hb dX0_joinedAfter_41 (by decide) ?_
        refine lv_istore_n (lv' := [(3, .int 1), (2, .int 1), (0, .ref h0), (1, .int b)]) hx hb dX0_joinedAfter_45 rfl hl (by decide) rfl (fun ls hl => ?_)
        refine lv_iload_n hx hb dX0_joinedAfter_46 rfl (lv_at hl 1 rfl) ?_
        refine lv_if_eq (tgt := 68) hx hb dX0_joinedAfter_47 (by decide) (fun c_47 => ?_) (fun c_47 => ?_)
        · exact absurd c_47 (by decide)
        · refine lv_iload_n hx hb dX0_joinedAfter_50 rfl (lv_at hl 3 rfl) ?_
          refine lv_iconst (v := 1) hx hb dX0_joinedAfter_51 (by decide) ?_
          refine lv_icmp_eq (tgt := 64) hx hb dX0_joinedAfter_52 (by decide) (fun c_52 => ?_) (fun c_52 => ?_)
          · refine lv_iconst (v := 2) hx hb dX0_joinedAfter_64 (by decide) ?_
            refine lv_goto (tgt := 69) hx hb dX0_joinedAfter_65 (by decide) ?_
            have hP9 := hP.sub (ws' := [(h0, .inr (1, [.ref h1, .int (nI w), .int gr, .int bt, .int jo])), (h1, .inl (cy 1, 10, .inl f))]) [0, 1] rfl
            have hD9 := hD.sub (ws' := [(h0, .inr (1, [.ref h1, .int (nI w), .int gr, .int bt, .int jo])), (h1, .inl (cy 1, 10, .inl f))]) [0, 1] (by decide) rfl
            exact W.iret (v := 2) hx hb hr (fun t ht hW => ⟨⟨2, (), rfl, hi_j_b (Nat.not_le.mpr ((hi_lt3 (hi_c_le 10)).mp c_8)) (Nat.not_lt.mp fun q => c_21 ((hi_lt3 (hi_c_le 10)).mpr q)) (Or.inl c_52), by rw [ht]; exact hP9, hD9⟩, hS.F ht⟩) hS.2.2 dX0_joinedAfter_69
          · refine lv_iload_n hx hb dX0_joinedAfter_55 rfl (lv_at hl 3 rfl) ?_
            refine lv_iconst (v := 3) hx hb dX0_joinedAfter_56 (by decide) ?_
            refine lv_icmp_ne (tgt := 68) hx hb dX0_joinedAfter_57 (by decide) (fun c_57 => ?_) (fun c_57 => ?_)
            · refine lv_iload_n hx hb dX0_joinedAfter_68 rfl (lv_at hl 3 rfl) ?_
              have hP9 := hP.sub (ws' := [(h0, .inr (1, [.ref h1, .int (nI w), .int gr, .int bt, .int jo])), (h1, .inl (cy 1, 10, .inl f))]) [0, 1] rfl
              have hD9 := hD.sub (ws' := [(h0, .inr (1, [.ref h1, .int (nI w), .int gr, .int bt, .int jo])), (h1, .inl (cy 1, 10, .inl f))]) [0, 1] (by decide) rfl
              exact W.iret (v := b) hx hb hr (fun t ht hW => ⟨⟨b, (), rfl, hi_j_c (Nat.not_le.mpr ((hi_lt3 (hi_c_le 10)).mp c_8)) (fun q => q.2.elim c_52 (fun r => c_57 r.1)), by rw [ht]; exact hP9, hD9⟩, hS.F ht⟩) hS.2.2 dX0_joinedAfter_69
            · refine lv_iload_n hx hb dX0_joinedAfter_60 rfl (lv_at hl 0 rfl) ?_
              refine lv_if_eq (tgt := 68) hx hb dX0_joinedAfter_61 (by decide) (fun c_61 => ?_) (fun c_61 => ?_)
              · exact absurd c_61 (by decide)
              · refine lv_iconst (v := 2) hx hb dX0_joinedAfter_64 (by decide) ?_
                refine lv_goto (tgt := 69) hx hb dX0_joinedAfter_65 (by decide) ?_
                have hP9 := hP.sub (ws' := [(h0, .inr (1, [.ref h1, .int (nI w), .int gr, .int bt, .int jo])), (h1, .inl (cy 1, 10, .inl f))]) [0, 1] rfl
                have hD9 := hD.sub (ws' := [(h0, .inr (1, [.ref h1, .int (nI w), .int gr, .int bt, .int jo])), (h1, .inl (cy 1, 10, .inl f))]) [0, 1] (by decide) rfl
                exact W.iret (v := 2) hx hb hr (fun t ht hW => ⟨⟨2, (), rfl, hi_j_b (Nat.not_le.mpr ((hi_lt3 (hi_c_le 10)).mp c_8)) (Nat.not_lt.mp fun q => c_21 ((hi_lt3 (hi_c_le 10)).mpr q)) (Or.inr ⟨c_57, (hi_eq3 (Nat.le_trans (hi_c_le 3) (by decide))).mp c_37⟩), by rw [ht]; exact hP9, hD9⟩, hS.F ht⟩) hS.2.2 dX0_joinedAfter_69
  · refine lv_iconst (v := 3) hx hb dX0_joinedAfter_11 (by decide) ?_
    have hP9 := hP.sub (ws' := [(h0, .inr (1, [.ref h1, .int (nI w), .int gr, .int bt, .int jo])), (h1, .inl (cy 1, 10, .inl f))]) [0, 1] rfl
    have hD9 := hD.sub (ws' := [(h0, .inr (1, [.ref h1, .int (nI w), .int gr, .int bt, .int jo])), (h1, .inl (cy 1, 10, .inl f))]) [0, 1] (by decide) rfl
    exact W.iret (v := 3) hx hb hr (fun t ht hW => ⟨⟨3, (), rfl, hi_j_a (Nat.not_lt.mp fun q => c_8 ((hi_lt3 (hi_c_le 10)).mpr q)), by rw [ht]; exact hP9, hD9⟩, hS.F ht⟩) hS.2.2 dX0_joinedAfter_12

theorem iw_X0_add_X0 : ∀ w ∈ wsX00, w ∈ wsX0_add := by decide +kernel
theorem lk_X0_add_f9 : (.fieldLink RX0 9 "DataGuards$History" "findings" "[I" : Cond) ∈ wsX0_add := by decide +kernel
theorem lk_X0_add_f19 : (.fieldLink RX0 19 "DataGuards$History" "rows" "I" : Cond) ∈ wsX0_add := by decide +kernel
theorem lk_X0_add_m22 : (.methodLink RX0 22 Lib.Math.min.name : Cond) ∈ wsX0_add := by decide +kernel
theorem lk_X0_add_mns : (.static Lib.Math.min.name : Cond) ∈ wsX0_add := by decide +kernel
theorem lk_X0_add_mni : (.initialized "java/lang/Math" : Cond) ∈ wsX0_add := by decide +kernel
theorem lk_X0_add_mnc : (.code Lib.Math.min.name Lib.Math.min.code 2 (some .int) : Cond) ∈ wsX0_add := by decide +kernel
theorem lk_X0_add_f35 : (.fieldLink RX0 35 "DataGuards$History" "everFoundBits" "I" : Cond) ∈ wsX0_add := by decide +kernel
theorem lk_X0_add_f15 : (.fieldLink RX0 15 "DataGuards$History" "joined" "I" : Cond) ∈ wsX0_add := by decide +kernel
theorem lk_X0_add_iniX5 : (.initialized RX5 : Cond) ∈ wsX0_add := by decide +kernel
theorem lk_X0_add_isyX5_sideOf : (.static yX5_sideOf : Cond) ∈ wsX0_add := by decide +kernel
theorem lk_X0_add_f32 : (.fieldLink RX0 32 "DataGuards$History" "goodRows" "I" : Cond) ∈ wsX0_add := by decide +kernel
set_option maxHeartbeats 4000000 in
set_option maxRecDepth 100000 in
/-- History.add(finding) -/
theorem c_X0_add (l : Launch) (D : va_G) (cy : Nat → ClassId) (sz : Nat) (h0 : Nat) (h1 : Nat) (f : Nat → Int32) (w : Nat) (gr : Int32) (bt : Int32) (jo : Int32) (x : Int32) (hw9 : w ≤ 10) : Met l yX0_add wsX0_add ({ frames := 3, cells := 0, slots := 0, locals := 68 } : Room) (pre1 D cy [.ref h0, .int x] [(h0, .inr (1, [.ref h1, .int (nI w), .int gr, .int bt, .int jo])), (h1, .inl (cy 1, 10, .inl f))] sz) (va_Qv (fun (u : (Nat → Int32)) => (∀ j, j < 10 → u j = hi_s f x j)) (fun u t => va_P D vwCl [(h0, .inr (1, [.ref h1, .int (nI (min (w + 1) 10)), .int (if sd x = 1 then gr + 1 else gr), .int (bt ||| (1 <<< (x &&& 31))), .int (hi_j u (min (w + 1) 10) (if jo = 0 then 1 else jo))])), (h1, .inl (cy 1, 10, .inl u))] t.heap ∧ va_D (va_A [(h0, .inr (1, [.ref h1, .int (nI w), .int gr, .int bt, .int jo])), (h1, .inl (cy 1, 10, .inl f))] sz) [(h0, .inr (1, [.ref h1, .int (nI (min (w + 1) 10)), .int (if sd x = 1 then gr + 1 else gr), .int (bt ||| (1 <<< (x &&& 31))), .int (hi_j u (min (w + 1) 10) (if jo = 0 then 1 else jo))])), (h1, .inl (cy 1, 10, .inl u))]) (va_A [(h0, .inr (1, [.ref h1, .int (nI w), .int gr, .int bt, .int jo])), (h1, .inl (cy 1, 10, .inl f))] sz)) 0 0 (va_A [(h0, .inr (1, [.ref h1, .int (nI w), .int gr, .int bt, .int jo])), (h1, .inl (cy 1, 10, .inl f))] sz) := by
  refine Met.ofW (cc := cX0_add) (maxL := 3) (ret := none) (by decide) rfl ?_
  intro p e s m args below meth c s₁ B hml hv
  obtain ⟨rfl, hsz, hP, hkk, hD0⟩ := hv
  have hx := B.exec
  have hb := B.bytes
  have hr := B.returns
  have hts := atoms_spec (ws := wsX0_add) B.pre
  have hown : s.vm.findClass RX0 = some m.cls := findClass_of_methodNamed B.named
  have hlocks := B.notSynchronized
  have hin : meth.name = _ := (name_of_methodNamed B.named B.method).1
  have hK := hkk.1
  subst hsz
  have hD := hD0.self (sz := s.heap.size)
  generalize hAe : va_A [(h0, .inr (1, [.ref h1, .int (nI w), .int gr, .int bt, .int jo])), (h1, .inl (cy 1, 10, .inl f))] s.heap.size = A at hD ⊢
  have hA : ∀ q : Nat, s.heap.size ≤ q → A q := fun q h => by rw [← hAe]; exact Or.inr h
  have hS : va_S A s.heap s.heap [] := va_S.rf
  have hP : va_P D vwCl [(h0, .inr (1, [.ref h1, .int (nI w), .int gr, .int bt, .int jo])), (h1, .inl (cy 1, 10, .inl f))] s.heap := hP
  have hl := lv_entry ([.ref h0, .int x]) (n := 3) (Nat.le_of_ble_eq_true rfl)
  rw [lg_entry_eq]
  generalize (lg_sl ([.ref h0, .int x]) ++ List.replicate (3 - (lg_sl ([.ref h0, .int x])).length) Slot.unset).toArray = ls at hl ⊢
  have hl : lv_has ls 3 [(0, .ref h0), (1, .int x)] := hl
  refine lv_bipush (v := 9) hx hb dX0_add_0 (by decide) ?_
  refine lv_topi (fun x_0 ex_0 => ?_)
  obtain rfl : x_0 = nI 9 := by rw [ex_0]; decide
  refine lv_istore_n (lv' := [(2, .int (nI 9)), (0, .ref h0), (1, .int x)]) hx hb dX0_add_2 rfl hl (by decide) rfl (fun ls hl => ?_)
  have cut_3 : ∀ (N : Nat) (k : Nat) (f1 : Nat → Int32) (H : Heap) (locs : List Loc), k < N → k ≤ 9 → (∀ j, j < 10 → f1 j = if k < j then f (j - 1) else f j) → va_P D vwCl [(h0, .inr (1, [.ref h1, .int (nI w), .int gr, .int bt, .int jo])), (h1, .inl (cy 1, 10, .inl f1))] H → va_D A [(h0, .inr (1, [.ref h1, .int (nI w), .int gr, .int bt, .int jo])), (h1, .inl (cy 1, 10, .inl f1))] → va_S A s.heap H locs → ∀ (ls : Array Slot), lv_has ls 3 [(0, .ref h0), (1, .int x), (2, .int (nI k))] → W p l e (headSpec wsX0_add ({ frames := 3, cells := 0, slots := 0, locals := 68 } : Room)).room s m [.ref h0, .int x].toArray below meth c H locs 0 0 (MQ below (va_Qv (fun (u : (Nat → Int32)) => (∀ j, j < 10 → u j = hi_s f x j)) (fun u t => va_P D vwCl [(h0, .inr (1, [.ref h1, .int (nI (min (w + 1) 10)), .int (if sd x = 1 then gr + 1 else gr), .int (bt ||| (1 <<< (x &&& 31))), .int (hi_j u (min (w + 1) 10) (if jo = 0 then 1 else jo))])), (h1, .inl (cy 1, 10, .inl u))] t.heap ∧ va_D A [(h0, .inr (1, [.ref h1, .int (nI (min (w + 1) 10)), .int (if sd x = 1 then gr + 1 else gr), .int (bt ||| (1 <<< (x &&& 31))), .int (hi_j u (min (w + 1) 10) (if jo = 0 then 1 else jo))])), (h1, .inl (cy 1, 10, .inl u))]) A) [.ref h0, .int x].toArray s 0 0 A) (F0 m 3 ls []) := by
    intro N
    induction N with
    | zero => intro k f1 H locs hN; exact absurd hN (Nat.not_lt_zero _)
    | succ N ih =>
      intro k f1 H locs hN hk hf1 hP hD hS ls hl
      refine lv_iload_n hx hb dX0_add_3 rfl (lv_at hl 2 rfl) ?_
      refine lv_if_le (tgt := 27) hx hb dX0_add_4 (by decide) (fun c_4 => ?_) (fun c_4 => ?_)
      · obtain rfl := hi_k9 hk c_4
        refine lv_aload_n hx hb dX0_add_27 rfl (lv_at hl 0 rfl) ?_
        refine va_get (D := D) (ci := 1) (v := .ref h1) (C := RX0) (T := TX0) (N := 5) hx hb hts iw_X0_add_X0 hown hK hP 0 rfl rfl 0 (by decide) (hts _ lk_X0_add_f9) (fun _ h9 => h9) rfl dX0_add_28 ?_
        refine lv_iconst (v := 0) hx hb dX0_add_31 (by decide) ?_
        refine lv_iload_n hx hb dX0_add_32 rfl (lv_at hl 1 rfl) ?_
        refine va_iast hx hb hK hP hD hS 1 1 rfl rfl (by rw [← nI_0]; exact vp_in_nI (by decide) (by decide)) dX0_add_33 (fun H locs hP hD hS => ?_)
        have hP : va_P D vwCl [(h0, .inr (1, [.ref h1, .int (nI w), .int gr, .int bt, .int jo])), (h1, .inl (cy 1, 10, .inl (upd f1 (0 : Int32).toNatClampNeg x)))] H := hP
        have hD : va_D A [(h0, .inr (1, [.ref h1, .int (nI w), .int gr, .int bt, .int jo])), (h1, .inl (cy 1, 10, .inl (upd f1 (0 : Int32).toNatClampNeg x)))] := hD
        have eA_33 : upd f1 (0 : Int32).toNatClampNeg x = upd f1 0 x := by rw [sb_cl0]
        rw [eA_33] at hP hD
        refine lv_aload_n hx hb dX0_add_34 rfl (lv_at hl 0 rfl) ?_
        refine lv_aload_n hx hb dX0_add_35 rfl (lv_at hl 0 rfl) ?_
        refine va_get (D := D) (ci := 1) (v := .int (nI w)) (C := RX0) (T := TX0) (N := 5) hx hb hts iw_X0_add_X0 hown hK hP 0 rfl rfl 1 (by decide) (hts _ lk_X0_add_f19) (fun _ h9 => h9) rfl dX0_add_36 ?_
        refine lv_iconst (v := 1) hx hb dX0_add_39 (by decide) ?_
        refine lv_iadd hx hb dX0_add_40 ?_
        refine lv_bipush (v := 10) hx hb dX0_add_41 (by decide) ?_
        refine va_mmin hx hb (hml.trans hl.1.symm) hown (hts _ lk_X0_add_m22) (hts _ lk_X0_add_mns) (hts _ lk_X0_add_mni) (hts _ lk_X0_add_mnc) (Nat.le_of_ble_eq_true rfl) (Nat.le_of_ble_eq_true rfl) (Nat.zero_le _) (Nat.zero_le _) dX0_add_43 ?_
        refine lv_topi (fun x_43 ex_43 => ?_)
        obtain rfl : x_43 = nI (min (w + 1) 10) := by rw [ex_43]; exact hi_min hw9
        refine va_put (D := D) (ci := 1) (v := .int (nI (min (w + 1) 10))) (ty := .int) (C := RX0) (T := TX0) (N := 5) hx hb hts iw_X0_add_X0 tyX0 tyX0_ok nmX0 hown hK hP hD hS 0 rfl rfl 1 (by decide) (hts _ lk_X0_add_f19) (fun _ h9 => h9) rfl (by decide +kernel) rfl rfl (Nat.le_of_ble_eq_true rfl) dX0_add_46 (fun H locs hP hD hS => ?_)
        have hP : va_P D vwCl [(h0, .inr (1, [.ref h1, .int (nI (min (w + 1) 10)), .int gr, .int bt, .int jo])), (h1, .inl (cy 1, 10, .inl (upd f1 0 x)))] H := hP
        have hD : va_D A [(h0, .inr (1, [.ref h1, .int (nI (min (w + 1) 10)), .int gr, .int bt, .int jo])), (h1, .inl (cy 1, 10, .inl (upd f1 0 x)))] := hD
        have cut_67 : ∀ (gr2 : Int32) (H : Heap) (locs : List Loc), gr2 = (if sd x = 1 then gr + 1 else gr) → va_P D vwCl [(h0, .inr (1, [.ref h1, .int (nI (min (w + 1) 10)), .int gr2, .int bt, .int jo])), (h1, .inl (cy 1, 10, .inl (upd f1 0 x)))] H → va_D A [(h0, .inr (1, [.ref h1, .int (nI (min (w + 1) 10)), .int gr2, .int bt, .int jo])), (h1, .inl (cy 1, 10, .inl (upd f1 0 x)))] → va_S A s.heap H locs → ∀ (ls : Array Slot), lv_has ls 3 [(0, .ref h0), (1, .int x)] → W p l e (headSpec wsX0_add ({ frames := 3, cells := 0, slots := 0, locals := 68 } : Room)).room s m [.ref h0, .int x].toArray below meth c H locs 0 0 (MQ below (va_Qv (fun (u : (Nat → Int32)) => (∀ j, j < 10 → u j = hi_s f x j)) (fun u t => va_P D vwCl [(h0, .inr (1, [.ref h1, .int (nI (min (w + 1) 10)), .int (if sd x = 1 then gr + 1 else gr), .int (bt ||| (1 <<< (x &&& 31))), .int (hi_j u (min (w + 1) 10) (if jo = 0 then 1 else jo))])), (h1, .inl (cy 1, 10, .inl u))] t.heap ∧ va_D A [(h0, .inr (1, [.ref h1, .int (nI (min (w + 1) 10)), .int (if sd x = 1 then gr + 1 else gr), .int (bt ||| (1 <<< (x &&& 31))), .int (hi_j u (min (w + 1) 10) (if jo = 0 then 1 else jo))])), (h1, .inl (cy 1, 10, .inl u))]) A) [.ref h0, .int x].toArray s 0 0 A) (F0 m 67 ls []) := by
          intro gr2 H locs hgr hP hD hS ls hl
          refine lv_aload_n hx hb dX0_add_67 rfl (lv_at hl 0 rfl) ?_
          refine lv_dup hx hb dX0_add_68 rfl ?_
          refine va_get (D := D) (ci := 1) (v := .int bt) (C := RX0) (T := TX0) (N := 5) hx hb hts iw_X0_add_X0 hown hK hP 0 rfl rfl 3 (by decide) (hts _ lk_X0_add_f35) (fun _ h9 => h9) rfl dX0_add_69 ?_
          refine lv_iconst (v := 1) hx hb dX0_add_72 (by decide) ?_
          refine lv_iload_n hx hb dX0_add_73 rfl (lv_at hl 1 rfl) ?_
          refine lv_ishl hx hb dX0_add_74 ?_
          refine lv_ior hx hb dX0_add_75 ?_
          refine va_put (D := D) (ci := 1) (v := .int (bt ||| (1 <<< (x &&& 31)))) (ty := .int) (C := RX0) (T := TX0) (N := 5) hx hb hts iw_X0_add_X0 tyX0 tyX0_ok nmX0 hown hK hP hD hS 0 rfl rfl 3 (by decide) (hts _ lk_X0_add_f35) (fun _ h9 => h9) rfl (by decide +kernel) rfl rfl (Nat.le_of_ble_eq_true rfl) dX0_add_76 (fun H locs hP hD hS => ?_)
          have hP : va_P D vwCl [(h0, .inr (1, [.ref h1, .int (nI (min (w + 1) 10)), .int gr2, .int (bt ||| (1 <<< (x &&& 31))), .int jo])), (h1, .inl (cy 1, 10, .inl (upd f1 0 x)))] H := hP
          have hD : va_D A [(h0, .inr (1, [.ref h1, .int (nI (min (w + 1) 10)), .int gr2, .int (bt ||| (1 <<< (x &&& 31))), .int jo])), (h1, .inl (cy 1, 10, .inl (upd f1 0 x)))] := hD
          refine lv_aload_n hx hb dX0_add_79 rfl (lv_at hl 0 rfl) ?_
          refine lv_aload_n hx hb dX0_add_80 rfl (lv_at hl 0 rfl) ?_
          refine lv_aload_n hx hb dX0_add_81 rfl (lv_at hl 0 rfl) ?_
          refine va_get (D := D) (ci := 1) (v := .int jo) (C := RX0) (T := TX0) (N := 5) hx hb hts iw_X0_add_X0 hown hK hP 0 rfl rfl 4 (by decide) (hts _ lk_X0_add_f15) (fun _ h9 => h9) rfl dX0_add_82 ?_
          refine lv_if_ne (tgt := 92) hx hb dX0_add_85 (by decide) (fun c_85 => ?_) (fun c_85 => ?_)
          · refine lv_aload_n hx hb dX0_add_92 rfl (lv_at hl 0 rfl) ?_
            refine va_get (D := D) (ci := 1) (v := .int jo) (C := RX0) (T := TX0) (N := 5) hx hb hts iw_X0_add_X0 hown hK hP 0 rfl rfl 4 (by decide) (hts _ lk_X0_add_f15) (fun _ h9 => h9) rfl dX0_add_93 ?_
            have hPc := hP.sub (ws' := [(h0, .inr (1, [.ref h1, .int (nI (min (w + 1) 10)), .int gr2, .int (bt ||| (1 <<< (x &&& 31))), .int jo])), (h1, .inl (cy 1, 10, .inl (upd f1 0 x)))]) [0, 1] rfl
            have hDc := hD.sub (ws' := [(h0, .inr (1, [.ref h1, .int (nI (min (w + 1) 10)), .int gr2, .int (bt ||| (1 <<< (x &&& 31))), .int jo])), (h1, .inl (cy 1, 10, .inl (upd f1 0 x)))]) [0, 1] (by decide) rfl
            have hFc := va_free (wc := [(h0, .inr (1, [.ref h1, .int (nI (min (w + 1) 10)), .int gr2, .int (bt ||| (1 <<< (x &&& 31))), .int jo])), (h1, .inl (cy 1, 10, .inl (upd f1 0 x)))]) hD hS hA [0, 1] rfl
            refine va_calli (va_runV (As := [.int jo]) (rest := [.ref h0]) ⟨hx, hb, hml, hown, hts⟩ (c_X0_joinedAfter l D cy H.size h0 h1 (upd f1 0 x) (min (w + 1) 10) gr2 (bt ||| (1 <<< (x &&& 31))) jo jo (Nat.min_le_right _ _)) (cwV 1 hts gX0_add_X0_joinedAfter rfl rfl rfl (by decide +kernel) ⟨Nat.le_of_ble_eq_true rfl, Nat.le_of_ble_eq_true rfl⟩) (pv_V (ci := 1) (q := (RX0, TX0, 5)) hkk hPc hDc rfl rfl rfl) rfl rfl hl.1 rfl (lv_room (Nat.le_of_ble_eq_true rfl)) dX0_add_96 ⟨Nat.le_of_ble_eq_true rfl, Nat.le_of_ble_eq_true rfl⟩) hS (fun q _ h => hFc q h) hFc (fun r_96 u t H1 locs ht hvm hw hB hz1 hk1 hS => ?_)
            obtain ⟨hP1, hD1⟩ := hB
            rw [ht] at hP1
            try dsimp only at hw hP1 hD1
            obtain ⟨hP, hD⟩ := va_join (wr := []) (w1 := [(h0, .inr (1, [.ref h1, .int (nI (min (w + 1) 10)), .int gr2, .int (bt ||| (1 <<< (x &&& 31))), .int jo])), (h1, .inl (cy 1, 10, .inl (upd f1 0 x)))]) hP hD [0, 1] [] rfl rfl (by decide) (by decide) hk1 hFc hP1 hD1
            clear hPc hDc hFc hP1 hD1 hz1 hk1
            generalize H1 = H at hP hS ⊢
            have hP : va_P D vwCl [(h0, .inr (1, [.ref h1, .int (nI (min (w + 1) 10)), .int gr2, .int (bt ||| (1 <<< (x &&& 31))), .int jo])), (h1, .inl (cy 1, 10, .inl (upd f1 0 x)))] H := hP
            have hD : va_D A [(h0, .inr (1, [.ref h1, .int (nI (min (w + 1) 10)), .int gr2, .int (bt ||| (1 <<< (x &&& 31))), .int jo])), (h1, .inl (cy 1, 10, .inl (upd f1 0 x)))] := hD
            obtain rfl := hw
            refine va_put (D := D) (ci := 1) (v := .int (hi_j (upd f1 0 x) (min (w + 1) 10) jo)) (ty := .int) (C := RX0) (T := TX0) (N := 5) hx hb hts iw_X0_add_X0 tyX0 tyX0_ok nmX0 hown hK hP hD hS 0 rfl rfl 4 (by decide) (hts _ lk_X0_add_f15) (fun _ h9 => h9) rfl (by decide +kernel) rfl rfl (Nat.le_of_ble_eq_true rfl) dX0_add_99 (fun H locs hP hD hS => ?_)
            have hP : va_P D vwCl [(h0, .inr (1, [.ref h1, .int (nI (min (w + 1) 10)), .int gr2, .int (bt ||| (1 <<< (x &&& 31))), .int (hi_j (upd f1 0 x) (min (w + 1) 10) jo)])), (h1, .inl (cy 1, 10, .inl (upd f1 0 x)))] H := hP
            have hD : va_D A [(h0, .inr (1, [.ref h1, .int (nI (min (w + 1) 10)), .int gr2, .int (bt ||| (1 <<< (x &&& 31))), .int (hi_j (upd f1 0 x) (min (w + 1) 10) jo)])), (h1, .inl (cy 1, 10, .inl (upd f1 0 x)))] := hD
            subst hgr
            rw [show hi_j (upd f1 0 x) (min (w + 1) 10) jo = hi_j (upd f1 0 x) (min (w + 1) 10) (if jo = 0 then 1 else jo) by rw [if_neg c_85]] at hP hD
            have hP9 := hP.sub (ws' := [(h0, .inr (1, [.ref h1, .int (nI (min (w + 1) 10)), .int (if sd x = 1 then gr + 1 else gr), .int (bt ||| (1 <<< (x &&& 31))), .int (hi_j (upd f1 0 x) (min (w + 1) 10) (if jo = 0 then 1 else jo))])), (h1, .inl (cy 1, 10, .inl (upd f1 0 x)))]) [0, 1] rfl
            have hD9 := hD.sub (ws' := [(h0, .inr (1, [.ref h1, .int (nI (min (w + 1) 10)), .int (if sd x = 1 then gr + 1 else gr), .int (bt ||| (1 <<< (x &&& 31))), .int (hi_j (upd f1 0 x) (min (w + 1) 10) (if jo = 0 then 1 else jo))])), (h1, .inl (cy 1, 10, .inl (upd f1 0 x)))]) [0, 1] (by decide) rfl
            exact W.vret hx hb hr (fun t ht hW => ⟨⟨upd f1 0 x, rfl, hi_s0 hf1, by rw [ht]; exact hP9, hD9⟩, hS.F ht⟩) hS.2.2 dX0_add_102
          · refine lv_iconst (v := 1) hx hb dX0_add_88 (by decide) ?_
            refine lv_goto (tgt := 96) hx hb dX0_add_89 (by decide) ?_
            have hPc := hP.sub (ws' := [(h0, .inr (1, [.ref h1, .int (nI (min (w + 1) 10)), .int gr2, .int (bt ||| (1 <<< (x &&& 31))), .int jo])), (h1, .inl (cy 1, 10, .inl (upd f1 0 x)))]) [0, 1] rfl
            have hDc := hD.sub (ws' := [(h0, .inr (1, [.ref h1, .int (nI (min (w + 1) 10)), .int gr2, .int (bt ||| (1 <<< (x &&& 31))), .int jo])), (h1, .inl (cy 1, 10, .inl (upd f1 0 x)))]) [0, 1] (by decide) rfl
            have hFc := va_free (wc := [(h0, .inr (1, [.ref h1, .int (nI (min (w + 1) 10)), .int gr2, .int (bt ||| (1 <<< (x &&& 31))), .int jo])), (h1, .inl (cy 1, 10, .inl (upd f1 0 x)))]) hD hS hA [0, 1] rfl
            refine va_calli (va_runV (As := [.int 1]) (rest := [.ref h0]) ⟨hx, hb, hml, hown, hts⟩ (c_X0_joinedAfter l D cy H.size h0 h1 (upd f1 0 x) (min (w + 1) 10) gr2 (bt ||| (1 <<< (x &&& 31))) jo 1 (Nat.min_le_right _ _)) (cwV 1 hts gX0_add_X0_joinedAfter rfl rfl rfl (by decide +kernel) ⟨Nat.le_of_ble_eq_true rfl, Nat.le_of_ble_eq_true rfl⟩) (pv_V (ci := 1) (q := (RX0, TX0, 5)) hkk hPc hDc rfl rfl rfl) rfl rfl hl.1 rfl (lv_room (Nat.le_of_ble_eq_true rfl)) dX0_add_96 ⟨Nat.le_of_ble_eq_true rfl, Nat.le_of_ble_eq_true rfl⟩) hS (fun q _ h => hFc q h) hFc (fun r_96 u t H1 locs ht hvm hw hB hz1 hk1 hS => ?_)
            obtain ⟨hP1, hD1⟩ := hB
            rw [ht] at hP1
            try dsimp only at hw hP1 hD1
            obtain ⟨hP, hD⟩ := va_join (wr := []) (w1 := [(h0, .inr (1, [.ref h1, .int (nI (min (w + 1) 10)), .int gr2, .int (bt ||| (1 <<< (x &&& 31))), .int jo])), (h1, .inl (cy 1, 10, .inl (upd f1 0 x)))]) hP hD [0, 1] [] rfl rfl (by decide) (by decide) hk1 hFc hP1 hD1
            clear hPc hDc hFc hP1 hD1 hz1 hk1
            generalize H1 = H at hP hS ⊢
            have hP : va_P D vwCl [(h0, .inr (1, [.ref h1, .int (nI (min (w + 1) 10)), .int gr2, .int (bt ||| (1 <<< (x &&& 31))), .int jo])), (h1, .inl (cy 1, 10, .inl (upd f1 0 x)))] H := hP
            have hD : va_D A [(h0, .inr (1, [.ref h1, .int (nI (min (w + 1) 10)), .int gr2, .int (bt ||| (1 <<< (x &&& 31))), .int jo])), (h1, .inl (cy 1, 10, .inl (upd f1 0 x)))] := hD
            obtain rfl := hw
            refine va_put (D := D) (ci := 1) (v := .int (hi_j (upd f1 0 x) (min (w + 1) 10) 1)) (ty := .int) (C := RX0) (T := TX0) (N := 5) hx hb hts iw_X0_add_X0 tyX0 tyX0_ok nmX0 hown hK hP hD hS 0 rfl rfl 4 (by decide) (hts _ lk_X0_add_f15) (fun _ h9 => h9) rfl (by decide +kernel) rfl rfl (Nat.le_of_ble_eq_true rfl) dX0_add_99 (fun H locs hP hD hS => ?_)
            have hP : va_P D vwCl [(h0, .inr (1, [.ref h1, .int (nI (min (w + 1) 10)), .int gr2, .int (bt ||| (1 <<< (x &&& 31))), .int (hi_j (upd f1 0 x) (min (w + 1) 10) 1)])), (h1, .inl (cy 1, 10, .inl (upd f1 0 x)))] H := hP
            have hD : va_D A [(h0, .inr (1, [.ref h1, .int (nI (min (w + 1) 10)), .int gr2, .int (bt ||| (1 <<< (x &&& 31))), .int (hi_j (upd f1 0 x) (min (w + 1) 10) 1)])), (h1, .inl (cy 1, 10, .inl (upd f1 0 x)))] := hD
            subst hgr
            rw [show hi_j (upd f1 0 x) (min (w + 1) 10) 1 = hi_j (upd f1 0 x) (min (w + 1) 10) (if jo = 0 then 1 else jo) by rw [if_pos c_85]] at hP hD
            have hP9 := hP.sub (ws' := [(h0, .inr (1, [.ref h1, .int (nI (min (w + 1) 10)), .int (if sd x = 1 then gr + 1 else gr), .int (bt ||| (1 <<< (x &&& 31))), .int (hi_j (upd f1 0 x) (min (w + 1) 10) (if jo = 0 then 1 else jo))])), (h1, .inl (cy 1, 10, .inl (upd f1 0 x)))]) [0, 1] rfl
            have hD9 := hD.sub (ws' := [(h0, .inr (1, [.ref h1, .int (nI (min (w + 1) 10)), .int (if sd x = 1 then gr + 1 else gr), .int (bt ||| (1 <<< (x &&& 31))), .int (hi_j (upd f1 0 x) (min (w + 1) 10) (if jo = 0 then 1 else jo))])), (h1, .inl (cy 1, 10, .inl (upd f1 0 x)))]) [0, 1] (by decide) rfl
            exact W.vret hx hb hr (fun t ht hW => ⟨⟨upd f1 0 x, rfl, hi_s0 hf1, by rw [ht]; exact hP9, hD9⟩, hS.F ht⟩) hS.2.2 dX0_add_102
        refine lv_iload_n hx hb dX0_add_49 rfl (lv_at hl 1 rfl) ?_
        have hPc := hP.sub (ws' := []) [] rfl
        have hDc := hD.sub (ws' := []) [] (by decide) rfl
        have hFc := va_free (wc := []) hD hS hA [] rfl
        refine va_calli (va_runSN (As := [.int x]) (rest := []) ⟨hx, hb, hml, hown, hts⟩ (c_X5_sideOf l D cy H.size x ) ⟨va_cnB 1 hts gX0_add_X5_sideOf_n28 rfl rfl rfl (nw_get 12 rfl hkk.2) (hts _ lk_X0_add_iniX5) (by decide +kernel) ⟨Nat.le_of_ble_eq_true rfl, Nat.le_of_ble_eq_true rfl⟩, (hts _ lk_X0_add_isyX5_sideOf), trivial⟩ (pv_S hkk hPc hDc rfl) rfl rfl hl.1 rfl (lv_room (Nat.le_of_ble_eq_true rfl)) dX0_add_50 ⟨Nat.le_of_ble_eq_true rfl, Nat.le_of_ble_eq_true rfl⟩) hS (fun q _ h => hFc q h) hFc (fun r_50 u t H1 locs ht hvm hw hB hz1 hk1 hS => ?_)
        obtain ⟨hP1, hD1⟩ := hB
        rw [ht] at hP1
        try dsimp only at hw hP1 hD1
        obtain ⟨hP, hD⟩ := va_join (wr := [(h0, .inr (1, [.ref h1, .int (nI (min (w + 1) 10)), .int gr, .int bt, .int jo])), (h1, .inl (cy 1, 10, .inl (upd f1 0 x)))]) (w1 := []) hP hD [] [0, 1] rfl rfl (by decide) (by decide) hk1 hFc hP1 hD1
        clear hPc hDc hFc hP1 hD1 hz1 hk1
        generalize H1 = H at hP hS ⊢
        have hP : va_P D vwCl [(h0, .inr (1, [.ref h1, .int (nI (min (w + 1) 10)), .int gr, .int bt, .int jo])), (h1, .inl (cy 1, 10, .inl (upd f1 0 x)))] H := hP
        have hD : va_D A [(h0, .inr (1, [.ref h1, .int (nI (min (w + 1) 10)), .int gr, .int bt, .int jo])), (h1, .inl (cy 1, 10, .inl (upd f1 0 x)))] := hD
        obtain rfl := hw
        refine lv_iconst (v := 1) hx hb dX0_add_53 (by decide) ?_
        refine lv_icmp_ne (tgt := 67) hx hb dX0_add_54 (by decide) (fun c_54 => ?_) (fun c_54 => ?_)
        · exact cut_67 gr _ _ (if_neg c_54).symm hP hD hS _ (lv_sub hl [0, 1] rfl)
        · refine lv_aload_n hx hb dX0_add_57 rfl (lv_at hl 0 rfl) ?_
          refine lv_dup hx hb dX0_add_58 rfl ?_
          refine va_get (D := D) (ci := 1) (v := .int gr) (C := RX0) (T := TX0) (N := 5) hx hb hts iw_X0_add_X0 hown hK hP 0 rfl rfl 2 (by decide) (hts _ lk_X0_add_f32) (fun _ h9 => h9) rfl dX0_add_59 ?_
          refine lv_iconst (v := 1) hx hb dX0_add_62 (by decide) ?_
          refine lv_iadd hx hb dX0_add_63 ?_
          refine va_put (D := D) (ci := 1) (v := .int (gr + 1)) (ty := .int) (C := RX0) (T := TX0) (N := 5) hx hb hts iw_X0_add_X0 tyX0 tyX0_ok nmX0 hown hK hP hD hS 0 rfl rfl 2 (by decide) (hts _ lk_X0_add_f32) (fun _ h9 => h9) rfl (by decide +kernel) rfl rfl (Nat.le_of_ble_eq_true rfl) dX0_add_64 (fun H locs hP hD hS => ?_)
          have hP : va_P D vwCl [(h0, .inr (1, [.ref h1, .int (nI (min (w + 1) 10)), .int (gr + 1), .int bt, .int jo])), (h1, .inl (cy 1, 10, .inl (upd f1 0 x)))] H := hP
          have hD : va_D A [(h0, .inr (1, [.ref h1, .int (nI (min (w + 1) 10)), .int (gr + 1), .int bt, .int jo])), (h1, .inl (cy 1, 10, .inl (upd f1 0 x)))] := hD
          exact cut_67 (gr + 1) _ _ (if_pos c_54).symm hP hD hS _ (lv_sub hl [0, 1] rfl)
      · obtain ⟨z, rfl⟩ := hi_k9' c_4
        refine lv_aload_n hx hb dX0_add_7 rfl (lv_at hl 0 rfl) ?_
        refine va_get (D := D) (ci := 1) (v := .ref h1) (C := RX0) (T := TX0) (N := 5) hx hb hts iw_X0_add_X0 hown hK hP 0 rfl rfl 0 (by decide) (hts _ lk_X0_add_f9) (fun _ h9 => h9) rfl dX0_add_8 ?_
        refine lv_iload_n hx hb dX0_add_11 rfl (lv_at hl 2 rfl) ?_
        refine lv_aload_n hx hb dX0_add_12 rfl (lv_at hl 0 rfl) ?_
        refine va_get (D := D) (ci := 1) (v := .ref h1) (C := RX0) (T := TX0) (N := 5) hx hb hts iw_X0_add_X0 hown hK hP 0 rfl rfl 0 (by decide) (hts _ lk_X0_add_f9) (fun _ h9 => h9) rfl dX0_add_13 ?_
        refine lv_iload_n hx hb dX0_add_16 rfl (lv_at hl 2 rfl) ?_
        refine lv_iconst (v := 1) hx hb dX0_add_17 (by decide) ?_
        refine lv_isub hx hb dX0_add_18 ?_
        refine lv_topi (fun x_18 ex_18 => ?_)
        obtain rfl : x_18 = nI z := by rw [ex_18]; exact nI_pred z
        refine va_iald hx hb hK hP 1 1 rfl rfl (vp_in_nI (by omega) (by decide)) dX0_add_19 ?_
        refine va_iast hx hb hK hP hD hS 1 1 rfl rfl (vp_in_nI (by omega) (by decide)) dX0_add_20 (fun H locs hP hD hS => ?_)
        have hP : va_P D vwCl [(h0, .inr (1, [.ref h1, .int (nI w), .int gr, .int bt, .int jo])), (h1, .inl (cy 1, 10, .inl (upd f1 (nI (z + 1)).toNatClampNeg (f1 (nI z).toNatClampNeg))))] H := hP
        have hD : va_D A [(h0, .inr (1, [.ref h1, .int (nI w), .int gr, .int bt, .int jo])), (h1, .inl (cy 1, 10, .inl (upd f1 (nI (z + 1)).toNatClampNeg (f1 (nI z).toNatClampNeg))))] := hD
        have eA_20 : upd f1 (nI (z + 1)).toNatClampNeg (f1 (nI z).toNatClampNeg) = upd f1 (z + 1) (f1 z) := by rw [nI_clamp (by omega), nI_clamp (by omega)]
        rw [eA_20] at hP hD
        refine lv_iinc (v := nI z) (lv' := [(2, .int (nI z)), (0, .ref h0), (1, .int x)]) hx hb dX0_add_21 hl (k := 2) rfl (oc_m1 z) (by decide) rfl (fun ls hl => ?_)
        refine lv_goto (tgt := 3) hx hb dX0_add_24 (by decide) ?_
        exact ih z (upd f1 (z + 1) (f1 z)) _ _ (by omega) (by omega) (hi_sh (by omega) hf1) hP hD hS _ (lv_sub hl [1, 2, 0] rfl)
  exact cut_3 _ 9 f _ _ (Nat.lt_succ_self _) (Nat.le_refl _) (fun j hj => by rw [if_neg (by omega)]) hP hD hS _ (lv_sub hl [1, 2, 0] rfl)

theorem iw_X0_everFound_X0 : ∀ w ∈ wsX00, w ∈ wsX0_everFound := by decide +kernel
theorem lk_X0_everFound_f35 : (.fieldLink RX0 35 "DataGuards$History" "everFoundBits" "I" : Cond) ∈ wsX0_everFound := by decide +kernel
set_option maxHeartbeats 4000000 in
set_option maxRecDepth 100000 in
theorem c_X0_everFound (l : Launch) (D : va_G) (cy : Nat → ClassId) (sz : Nat) (h0 : Nat) (h1 : Nat) (f : Nat → Int32) (w : Nat) (gr : Int32) (bt : Int32) (jo : Int32) (i : Int32)  : Met l yX0_everFound wsX0_everFound ({ frames := 0, cells := 0, slots := 0, locals := 0 } : Room) (pre1 D cy [.ref h0, .int i] [(h0, .inr (1, [.ref h1, .int (nI w), .int gr, .int bt, .int jo])), (h1, .inl (cy 1, 10, .inl f))] sz) (va_Qi (fun (r : Int32) (u : Unit) => r = hi_e bt i) (fun u t => va_P D vwCl [(h0, .inr (1, [.ref h1, .int (nI w), .int gr, .int bt, .int jo])), (h1, .inl (cy 1, 10, .inl f))] t.heap ∧ va_D (va_A [(h0, .inr (1, [.ref h1, .int (nI w), .int gr, .int bt, .int jo])), (h1, .inl (cy 1, 10, .inl f))] sz) [(h0, .inr (1, [.ref h1, .int (nI w), .int gr, .int bt, .int jo])), (h1, .inl (cy 1, 10, .inl f))]) (va_A [(h0, .inr (1, [.ref h1, .int (nI w), .int gr, .int bt, .int jo])), (h1, .inl (cy 1, 10, .inl f))] sz)) 0 0 (va_A [(h0, .inr (1, [.ref h1, .int (nI w), .int gr, .int bt, .int jo])), (h1, .inl (cy 1, 10, .inl f))] sz) := by
  refine Met.ofW (cc := cX0_everFound) (maxL := 2) (ret := (some .boolean)) (by decide) rfl ?_
  intro p e s m args below meth c s₁ B hml hv
  obtain ⟨rfl, hsz, hP, hkk, hD0⟩ := hv
  have hx := B.exec
  have hb := B.bytes
  have hr := B.returns
  have hts := atoms_spec (ws := wsX0_everFound) B.pre
  have hown : s.vm.findClass RX0 = some m.cls := findClass_of_methodNamed B.named
  have hlocks := B.notSynchronized
  have hin : meth.name = _ := (name_of_methodNamed B.named B.method).1
  have hK := hkk.1
  subst hsz
  have hD := hD0.self (sz := s.heap.size)
  generalize hAe : va_A [(h0, .inr (1, [.ref h1, .int (nI w), .int gr, .int bt, .int jo])), (h1, .inl (cy 1, 10, .inl f))] s.heap.size = A at hD ⊢
  have hA : ∀ q : Nat, s.heap.size ≤ q → A q := fun q h => by rw [← hAe]; exact Or.inr h
  have hS : va_S A s.heap s.heap [] := va_S.rf
  have hP : va_P D vwCl [(h0, .inr (1, [.ref h1, .int (nI w), .int gr, .int bt, .int jo])), (h1, .inl (cy 1, 10, .inl f))] s.heap := hP
  have hl := lv_entry ([.ref h0, .int i]) (n := 2) (Nat.le_of_ble_eq_true rfl)
  rw [lg_entry_eq]
  generalize (lg_sl ([.ref h0, .int i]) ++ List.replicate (2 - (lg_sl ([.ref h0, .int i])).length) Slot.unset).toArray = ls at hl ⊢
  have hl : lv_has ls 2 [(0, .ref h0), (1, .int i)] := hl
  refine lv_iload_n hx hb dX0_everFound_0 rfl (lv_at hl 1 rfl) ?_
  refine lv_if_lt (tgt := 25) hx hb dX0_everFound_1 (by decide) (fun c_1 => ?_) (fun c_1 => ?_)
  · refine lv_iconst (v := 0) hx hb dX0_everFound_25 (by decide) ?_
    have hP9 := hP.sub (ws' := [(h0, .inr (1, [.ref h1, .int (nI w), .int gr, .int bt, .int jo])), (h1, .inl (cy 1, 10, .inl f))]) [0, 1] rfl
    have hD9 := hD.sub (ws' := [(h0, .inr (1, [.ref h1, .int (nI w), .int gr, .int bt, .int jo])), (h1, .inl (cy 1, 10, .inl f))]) [0, 1] (by decide) rfl
    exact W.zret (v := 0) hx hb hr rfl (fun t ht hW => ⟨⟨0, (), rfl, by unfold hi_e; rw [if_neg (fun q => q.1 c_1)], by rw [ht]; exact hP9, hD9⟩, hS.F ht⟩) hS.2.2 dX0_everFound_26
  · refine lv_iload_n hx hb dX0_everFound_4 rfl (lv_at hl 1 rfl) ?_
    refine lv_iconst (v := 5) hx hb dX0_everFound_5 (by decide) ?_
    refine lv_icmp_gt (tgt := 25) hx hb dX0_everFound_6 (by decide) (fun c_6 => ?_) (fun c_6 => ?_)
    · refine lv_iconst (v := 0) hx hb dX0_everFound_25 (by decide) ?_
      have hP9 := hP.sub (ws' := [(h0, .inr (1, [.ref h1, .int (nI w), .int gr, .int bt, .int jo])), (h1, .inl (cy 1, 10, .inl f))]) [0, 1] rfl
      have hD9 := hD.sub (ws' := [(h0, .inr (1, [.ref h1, .int (nI w), .int gr, .int bt, .int jo])), (h1, .inl (cy 1, 10, .inl f))]) [0, 1] (by decide) rfl
      exact W.zret (v := 0) hx hb hr rfl (fun t ht hW => ⟨⟨0, (), rfl, by unfold hi_e; rw [if_neg (fun q => q.2.1 c_6)], by rw [ht]; exact hP9, hD9⟩, hS.F ht⟩) hS.2.2 dX0_everFound_26
    · refine lv_aload_n hx hb dX0_everFound_9 rfl (lv_at hl 0 rfl) ?_
      refine va_get (D := D) (ci := 1) (v := .int bt) (C := RX0) (T := TX0) (N := 5) hx hb hts iw_X0_everFound_X0 hown hK hP 0 rfl rfl 3 (by decide) (hts _ lk_X0_everFound_f35) (fun _ h9 => h9) rfl dX0_everFound_10 ?_
      refine lv_iload_n hx hb dX0_everFound_13 rfl (lv_at hl 1 rfl) ?_
      refine lv_ishr hx hb dX0_everFound_14 ?_
      refine lv_iconst (v := 1) hx hb dX0_everFound_15 (by decide) ?_
      refine lv_iand hx hb dX0_everFound_16 ?_
      refine lv_iconst (v := 1) hx hb dX0_everFound_17 (by decide) ?_
      refine lv_icmp_ne (tgt := 25) hx hb dX0_everFound_18 (by decide) (fun c_18 => ?_) (fun c_18 => ?_)
      · refine lv_iconst (v := 0) hx hb dX0_everFound_25 (by decide) ?_
        have hP9 := hP.sub (ws' := [(h0, .inr (1, [.ref h1, .int (nI w), .int gr, .int bt, .int jo])), (h1, .inl (cy 1, 10, .inl f))]) [0, 1] rfl
        have hD9 := hD.sub (ws' := [(h0, .inr (1, [.ref h1, .int (nI w), .int gr, .int bt, .int jo])), (h1, .inl (cy 1, 10, .inl f))]) [0, 1] (by decide) rfl
        exact W.zret (v := 0) hx hb hr rfl (fun t ht hW => ⟨⟨0, (), rfl, by unfold hi_e; rw [if_neg (fun q => c_18 q.2.2)], by rw [ht]; exact hP9, hD9⟩, hS.F ht⟩) hS.2.2 dX0_everFound_26
      · refine lv_iconst (v := 1) hx hb dX0_everFound_21 (by decide) ?_
        refine lv_goto (tgt := 26) hx hb dX0_everFound_22 (by decide) ?_
        have hP9 := hP.sub (ws' := [(h0, .inr (1, [.ref h1, .int (nI w), .int gr, .int bt, .int jo])), (h1, .inl (cy 1, 10, .inl f))]) [0, 1] rfl
        have hD9 := hD.sub (ws' := [(h0, .inr (1, [.ref h1, .int (nI w), .int gr, .int bt, .int jo])), (h1, .inl (cy 1, 10, .inl f))]) [0, 1] (by decide) rfl
        exact W.zret (v := 1) hx hb hr rfl (fun t ht hW => ⟨⟨1, (), rfl, by unfold hi_e; rw [if_pos ⟨c_1, c_6, c_18⟩], by rw [ht]; exact hP9, hD9⟩, hS.F ht⟩) hS.2.2 dX0_everFound_26

theorem lk_X0_init_m3 : (.methodLink RX0 3 objectInit : Cond) ∈ wsX0_init := by decide +kernel
theorem lk_X0_init_oi : (.instanceMethod objectInit : Cond) ∈ wsX0_init := by decide +kernel
theorem lk_X0_init_oc : (.code objectInit ⟨#[0xb1]⟩ 1 none : Cond) ∈ wsX0_init := by decide +kernel
theorem lk_X0_init_aint : (.arrayClass .int : Cond) ∈ wsX0_init := by decide +kernel
theorem iw_X0_init_X0 : ∀ w ∈ wsX00, w ∈ wsX0_init := by decide +kernel
theorem lk_X0_init_f9 : (.fieldLink RX0 9 "DataGuards$History" "findings" "[I" : Cond) ∈ wsX0_init := by decide +kernel
theorem lk_X0_init_f15 : (.fieldLink RX0 15 "DataGuards$History" "joined" "I" : Cond) ∈ wsX0_init := by decide +kernel
set_option maxHeartbeats 4000000 in
set_option maxRecDepth 100000 in
theorem c_X0_init (l : Launch) (D : va_G) (cy : Nat → ClassId) (sz : Nat) (h0 : Nat)  : Met l yX0_init wsX0_init ({ frames := 1, cells := 1, slots := 10, locals := 20 } : Room) (pre1 D cy [.ref h0] [(h0, .inr (1, [.null, .int 0, .int 0, .int 0, .int 0]))] sz) (va_Qv (fun (u : (Nat)) => True) (fun u t => va_P D vwCl [(h0, .inr (1, [.ref u, .int 0, .int 0, .int 0, .int 0])), (u, .inl (cy 1, 10, .inl (fun _ => 0)))] t.heap ∧ va_D (va_A [(h0, .inr (1, [.null, .int 0, .int 0, .int 0, .int 0]))] sz) [(h0, .inr (1, [.ref u, .int 0, .int 0, .int 0, .int 0])), (u, .inl (cy 1, 10, .inl (fun _ => 0)))]) (va_A [(h0, .inr (1, [.null, .int 0, .int 0, .int 0, .int 0]))] sz)) 1 10 (va_A [(h0, .inr (1, [.null, .int 0, .int 0, .int 0, .int 0]))] sz) := by
  refine Met.ofW (cc := cX0_init) (maxL := 1) (ret := none) (by decide) rfl ?_
  intro p e s m args below meth c s₁ B hml hv
  obtain ⟨rfl, hsz, hP, hkk, hD0⟩ := hv
  have hx := B.exec
  have hb := B.bytes
  have hr := B.returns
  have hts := atoms_spec (ws := wsX0_init) B.pre
  have hown : s.vm.findClass RX0 = some m.cls := findClass_of_methodNamed B.named
  have hlocks := B.notSynchronized
  have hin : meth.name = _ := (name_of_methodNamed B.named B.method).1
  have hK := hkk.1
  subst hsz
  have hD := hD0.self (sz := s.heap.size)
  generalize hAe : va_A [(h0, .inr (1, [.null, .int 0, .int 0, .int 0, .int 0]))] s.heap.size = A at hD ⊢
  have hA : ∀ q : Nat, s.heap.size ≤ q → A q := fun q h => by rw [← hAe]; exact Or.inr h
  have hS : va_S A s.heap s.heap [] := va_S.rf
  have hP : va_P D vwCl [(h0, .inr (1, [.null, .int 0, .int 0, .int 0, .int 0]))] s.heap := hP
  have hl := lv_entry ([.ref h0]) (n := 1) (Nat.le_of_ble_eq_true rfl)
  rw [lg_entry_eq]
  generalize (lg_sl ([.ref h0]) ++ List.replicate (1 - (lg_sl ([.ref h0])).length) Slot.unset).toArray = ls at hl ⊢
  have hl : lv_has ls 1 [(0, .ref h0)] := hl
  refine lv_aload_n hx hb dX0_init_0 rfl (lv_at hl 0 rfl) ?_
  refine W.objInit hx hb hown (hts _ lk_X0_init_m3) (hts _ lk_X0_init_oi) (hts _ lk_X0_init_oc) rfl (by rw [hml]; exact hl.1) rfl dX0_init_1 (Nat.le_of_ble_eq_true rfl) (Nat.le_of_ble_eq_true rfl) ?_
  refine W.eq (g2 := F0 m 4 ls []) rfl ?_
  refine lv_aload_n hx hb dX0_init_4 rfl (lv_at hl 0 rfl) ?_
  refine lv_bipush (v := 10) hx hb dX0_init_5 (by decide) ?_
  refine va_newa (atype := .int) (a0 := (10, .inl (fun _ => 0))) (N' := 10) (ty := .int) hx hb (hts _ lk_X0_init_aint) rfl hK hP hD hS hA (fun _ => rfl) (by decide) (by decide) (by decide) (Nat.le_of_ble_eq_true rfl) (Nat.le_of_ble_eq_true rfl) dX0_init_7 (fun q_7 cA_7 H hK2 hP hD hS => ?_)
  obtain rfl : cA_7 = cy 1 := kk_same hK2 1 4 rfl rfl (fun _ h => by cases h)
  have hP : va_P D vwCl [(h0, .inr (1, [.null, .int 0, .int 0, .int 0, .int 0])), (q_7, .inl (cy 1, 10, .inl (fun _ => 0)))] H := hP
  have hD : va_D A [(h0, .inr (1, [.null, .int 0, .int 0, .int 0, .int 0])), (q_7, .inl (cy 1, 10, .inl (fun _ => 0)))] := hD
  refine W.widen (k := 1) (n := 10) (by decide) (by decide) ?_
  refine va_putF (D := D) (ci := 1) (v := .ref q_7) (ty := (.array .int)) (C := RX0) (T := TX0) (N := 5) hx hb hts iw_X0_init_X0 tyX0 tyX0_ok nmX0 hown hK hP hD hS 0 rfl rfl 0 (by decide) (hts _ lk_X0_init_f9) (fun _ h9 => h9) rfl hin rfl (by decide +kernel) rfl rfl (Nat.le_of_ble_eq_true rfl) dX0_init_9 (fun H locs hP hD hS => ?_)
  have hP : va_P D vwCl [(h0, .inr (1, [.ref q_7, .int 0, .int 0, .int 0, .int 0])), (q_7, .inl (cy 1, 10, .inl (fun _ => 0)))] H := hP
  have hD : va_D A [(h0, .inr (1, [.ref q_7, .int 0, .int 0, .int 0, .int 0])), (q_7, .inl (cy 1, 10, .inl (fun _ => 0)))] := hD
  refine lv_aload_n hx hb dX0_init_12 rfl (lv_at hl 0 rfl) ?_
  refine lv_iconst (v := 0) hx hb dX0_init_13 (by decide) ?_
  refine va_put (D := D) (ci := 1) (v := .int 0) (ty := .int) (C := RX0) (T := TX0) (N := 5) hx hb hts iw_X0_init_X0 tyX0 tyX0_ok nmX0 hown hK hP hD hS 0 rfl rfl 4 (by decide) (hts _ lk_X0_init_f15) (fun _ h9 => h9) rfl (by decide +kernel) rfl rfl (Nat.le_of_ble_eq_true rfl) dX0_init_14 (fun H locs hP hD hS => ?_)
  have hP : va_P D vwCl [(h0, .inr (1, [.ref q_7, .int 0, .int 0, .int 0, .int 0])), (q_7, .inl (cy 1, 10, .inl (fun _ => 0)))] H := hP
  have hD : va_D A [(h0, .inr (1, [.ref q_7, .int 0, .int 0, .int 0, .int 0])), (q_7, .inl (cy 1, 10, .inl (fun _ => 0)))] := hD
  have hP9 := hP.sub (ws' := [(h0, .inr (1, [.ref q_7, .int 0, .int 0, .int 0, .int 0])), (q_7, .inl (cy 1, 10, .inl (fun _ => 0)))]) [0, 1] rfl
  have hD9 := hD.sub (ws' := [(h0, .inr (1, [.ref q_7, .int 0, .int 0, .int 0, .int 0])), (q_7, .inl (cy 1, 10, .inl (fun _ => 0)))]) [0, 1] (by decide) rfl
  exact W.vret hx hb hr (fun t ht hW => ⟨⟨q_7, rfl, trivial, by rw [ht]; exact hP9, hD9⟩, hS.F ht⟩) hS.2.2 dX0_init_17
end
section
/-! Rows: numbers in octets, the receiver's and the sender's words. -/
def be (g : Nat → Nat) (p : Nat) : Nat → Nat
  | 0 => 0
  | k + 1 => be g p k * 256 + g (p + k)
theorem be_lt {g : Nat → Nat} {p : Nat} : ∀ {k : Nat}, (∀ j, j < k → g (p + j) < 256) → be g p k < 256 ^ k
  | 0, _ => Nat.zero_lt_one
  | k + 1, h => by
    have h1 := be_lt (k := k) (fun j hj => h j (by omega))
    have h2 := h k (by omega)
    show be g p k * 256 + g (p + k) < 256 ^ (k + 1)
    rw [Nat.pow_succ]
    omega
theorem nx_or (a b : Nat) : nI a ||| nI b = nI (a ||| b) := by
  apply Int32.toBitVec_inj.1
  show BitVec.ofNat 32 a ||| BitVec.ofNat 32 b = BitVec.ofNat 32 (a ||| b)
  apply BitVec.eq_of_getLsbD_eq
  intro i hi
  simp [hi]
theorem or_256 {a b : Nat} (hb : b < 256) : a * 256 ||| b = a * 256 + b := by
  rw [Nat.mul_comm]
  exact (Nat.two_pow_add_eq_or_of_lt (i := 8) hb a).symm
theorem oc_num_0 {f : Nat → Int32} {n : Nat} {p : Int32} : oc_num f n p 0 = 0 := rfl
theorem oc_num_1 {f : Nat → Int32} {n k : Nat} {p : Int32} : oc_num f n p (k + 1) = (oc_num f n p k <<< ((8 : Int32) &&& 31)) ||| oc_get f n (p + nI k) := rfl
theorem oc_num_be {f : Nat → Int32} {n p : Nat} {g : Nat → Nat} (hg : oc_is f n g) (hn : n ≤ 70) : ∀ k, k ≤ 4 → p + k ≤ n → oc_num f n (nI p) k = nI (be g p k)
  | 0, _, _ => by rw [oc_num_0]; exact nI_0.symm
  | k + 1, h4, h => by
    have hl : be g p k < 256 ^ k := be_lt (fun j hj => (hg (p + j) (by omega)).2)
    have hp : 256 ^ k ≤ 256 ^ 3 := Nat.pow_le_pow_right (by decide) (by omega)
    rw [oc_num_1, oc_num_be hg hn k (by omega) (by omega), pk_shlN _ 8 (by decide) (by omega), nI_add, oc_get_is hg (by omega) hn, nx_or]
    exact congrArg nI (or_256 (hg (p + k) (by omega)).2)
theorem nI_inj32 {a b : Nat} (ha : a < 2 ^ 32) (hb : b < 2 ^ 32) (h : nI a = nI b) : a = b := by
  have := congrArg (fun z : Int32 => z.toBitVec.toNat) h
  simpa [pk_tn ha, pk_tn hb] using this
/-- the numbers of a profile -/
def pvd (pB pS pG pE pC pO : Nat) : Prop := isB pB ∧ pS < 2 ^ pB ∧ pG < 2 ^ pB ∧ pE < 2 ^ pB ∧ 0 < pC ∧ pC ≤ 65536 ∧ 1 ≤ pO ∧ pO ≤ 2
theorem isB_8 {B : Nat} (h : isB B) : 1 ≤ B / 8 ∧ B / 8 ≤ 4 ∧ 256 ^ (B / 8) = 2 ^ B := by
  rcases h with rfl | rfl | rfl <;> decide
def rc_err (pB pS pG pE pC pO d n : Nat) (g : Nat → Nat) (tm : Int32) : Int32 := if ¬ tm = 0 ∨ n < pB / 8 + pO ∨ ¬ be g (n - pB / 8) (pB / 8) = ck pB pS pG pE d g (n - pB / 8) ∨ pC ≤ be g 0 pO then 1 else 0
theorem rc_cmp {n a b : Nat} (hn : n ≤ 70) (ha : a ≤ 4) (hb : b ≤ 2) : nI b ≤ nI n - nI a ↔ a + b ≤ n := by
  rw [Int32.le_iff_toInt_le, pk_sub_toInt (by omega) (by omega), nI_toInt (by omega)]
  omega
def fst (x : Int32) : Int32 := if x = 0 then 1 else if x = 1 then 0 else if 3 < x then 3 else 2
def rc_fd (cbf v : Int32) (pC : Nat) : Int32 := if cbf = -1 then 5 else fst (fm (v - cbf) (nI pC))
def rc_col (f : Nat → Int32) (n : Nat) (tm x : Int32) (f2 : Nat → Int32) (n2 : Nat) (tm2 : Int32) : Prop := (n < 70 ∧ f2 = upd f n x.toInt8.toInt32 ∧ n2 = n + 1 ∧ tm2 = tm) ∨ (¬ n < 70 ∧ f2 = f ∧ n2 = n ∧ tm2 = 1)
theorem oc_add_nz {f f2 : Nat → Int32} {n n2 : Nat} {x r tm : Int32} (h : oc_add f n x r f2 n2) (hr : ¬ r = 0) : rc_col f n tm x f2 n2 tm := by
  rcases h with ⟨h1, h2, h3, h4⟩ | ⟨h1, h2, h3, h4⟩
  · exact Or.inl ⟨h1, h3, h4, rfl⟩
  · exact absurd h2 hr
theorem oc_add_z {f f2 : Nat → Int32} {n n2 : Nat} {x r tm : Int32} (h : oc_add f n x r f2 n2) (hr : r = 0) : rc_col f n tm x f2 n2 1 := by
  rcases h with ⟨h1, h2, h3, h4⟩ | ⟨h1, h2, h3, h4⟩
  · rw [h2] at hr; exact absurd hr (by decide)
  · exact Or.inr ⟨h1, h3, h4, rfl⟩
def sc_col (f : Nat → Int32) (n : Nat) (x : Int32) (f2 : Nat → Int32) (n2 : Nat) : Prop := (n < 64 ∧ f2 = upd f n x.toInt8.toInt32 ∧ n2 = n + 1) ∨ (¬ n < 64 ∧ f2 = f ∧ n2 = n)
theorem i32_64 : (64 : Int32) = nI 64 := by decide
theorem sb_mod (v : Nat) : sb_b v = sb_b (v % 256) := by
  unfold sb_b
  congr 1
  apply Int8.toBitVec_inj.mp
  rw [Int32.toBitVec_toInt8, Int32.toBitVec_toInt8]
  show (BitVec.ofNat 32 v).signExtend 8 = (BitVec.ofNat 32 (v % 256)).signExtend 8
  rw [BitVec.signExtend_eq_setWidth_of_le _ (by decide), BitVec.signExtend_eq_setWidth_of_le _ (by decide)]
  apply BitVec.eq_of_toNat_eq
  simp only [BitVec.toNat_setWidth, BitVec.toNat_ofNat]
  omega
theorem dig_b {u q : Nat} (hu : u < 2 ^ 32) (hq : q < 4) : (oc_dig (nI u) q).toInt8.toInt32 = sb_b (u / 256 ^ q % 256) := by
  unfold oc_dig
  rw [pk_ushrN hu _ (8 * q) (s_u (8 * q) (by omega)), ← sb_mod, Nat.pow_mul]
  rfl
theorem b_of_b {a : Nat} (ha : a < 256) : (nI a).toInt8.toInt32 = sb_b a := rfl
/-- a row before its check: the counter u in pO octets, then the data -/
def hdr (pO u : Nat) (g : Nat → Nat) (j : Nat) : Nat := if j < pO then u / 256 ^ (pO - 1 - j) % 256 else g (j - pO)
/-- the whole row: the check k in b octets behind the first n -/
def rwv (n b k : Nat) (g : Nat → Nat) (j : Nat) : Nat := if j < n then g j else k / 256 ^ (b - 1 - (j - n)) % 256
theorem hdr_is {f f2 f3 : Nat → Int32} {n pO u : Nat} {g : Nat → Nat} (hu : u < 2 ^ 32) (hO : pO ≤ 2) (hn : n ≤ 64) (hg : oc_is f n g)
    (h1 : ∀ j, j < pO → f2 (0 + j) = (oc_dig (nI u) (pO - 1 - j)).toInt8.toInt32) (h2 : ∀ j, j < 0 + pO → f3 j = f2 j) (h3 : ∀ j, j < n → f3 (0 + pO + j) = (oc_get f n (nI j)).toInt8.toInt32) : oc_is f3 (0 + pO + n) (hdr pO u g) := by
  intro j hj
  unfold hdr
  by_cases h : j < pO
  · rw [if_pos h, h2 j (by omega)]
    have := h1 j h
    rw [Nat.zero_add] at this
    exact ⟨this.trans (dig_b hu (by omega)), Nat.mod_lt _ (by decide)⟩
  · rw [if_neg h]
    have := h3 (j - pO) (by omega)
    rw [show 0 + pO + (j - pO) = j by omega, oc_get_is hg (by omega) (by omega)] at this
    exact ⟨this, (hg (j - pO) (by omega)).2⟩
theorem rwv_is {f f2 : Nat → Int32} {n b k : Nat} {g : Nat → Nat} (hk : k < 2 ^ 32) (hb : b ≤ 4) (hg : oc_is f n g)
    (h1 : ∀ j, j < n → f2 j = f j) (h2 : ∀ j, j < b → f2 (n + j) = (oc_dig (nI k) (b - 1 - j)).toInt8.toInt32) : oc_is f2 (n + b) (rwv n b k g) := by
  intro j hj
  unfold rwv
  by_cases h : j < n
  · rw [if_pos h, h1 j h]; exact hg j h
  · rw [if_neg h]
    have := h2 (j - n) (by omega)
    rw [show n + (j - n) = j by omega] at this
    exact ⟨this.trans (dig_b hk (by omega)), Nat.mod_lt _ (by decide)⟩
/-- the mask's lowest eight bits -/
def m8 (x : Int32) : Nat := x.toBitVec.toNat % 256
def flp (p k : Nat) (g : Nat → Nat) (j : Nat) : Nat := if j = p then g j ^^^ k else g j
theorem xor_b {a : Nat} (x : Int32) (ha : a < 256) : (sb_b a ^^^ x).toInt8.toInt32 = sb_b (a ^^^ m8 x) := by
  have hx : m8 x < 256 := Nat.mod_lt _ (by decide)
  unfold sb_b
  congr 1
  apply Int8.toBitVec_inj.mp
  rw [Int32.toBitVec_toInt8, Int32.toBitVec_toInt8, Int32.toBitVec_xor]
  rw [BitVec.signExtend_eq_setWidth_of_le _ (by decide), BitVec.signExtend_eq_setWidth_of_le _ (by decide)]
  apply BitVec.eq_of_getLsbD_eq
  intro i hi
  have e1 : (nI a).toInt8.toInt32.toBitVec.getLsbD i = a.testBit i := by
    rw [Int8.toBitVec_toInt32, Int32.toBitVec_toInt8, BitVec.getLsbD_signExtend, if_pos (by omega), BitVec.signExtend_eq_setWidth_of_le _ (by decide), BitVec.getLsbD_setWidth]
    show (_ && (_ && (BitVec.ofNat 32 a).getLsbD i)) = _
    rw [BitVec.getLsbD_ofNat]
    simp [show i < 32 by omega, hi]
  have e2 : x.toBitVec.getLsbD i = (m8 x).testBit i := by
    unfold m8
    rw [show (256 : Nat) = 2 ^ 8 by rfl, Nat.testBit_mod_two_pow, decide_eq_true hi, Bool.true_and]
    rfl
  rw [BitVec.getLsbD_setWidth, BitVec.getLsbD_setWidth, BitVec.getLsbD_xor, e1, e2]
  show _ = (_ && (BitVec.ofNat 32 (a ^^^ m8 x)).getLsbD i)
  rw [BitVec.getLsbD_ofNat, Nat.testBit_xor]
  simp [show i < 32 by omega]
theorem flp_is {f : Nat → Int32} {n p : Nat} {g : Nat → Nat} {x : Int32} (hn : n ≤ 70) (hp : p ≤ 100) (hg : oc_is f n g) : oc_is (oc_flip f n (nI p) x) n (flp p (m8 x) g) := by
  intro j hj
  have hx : m8 x < 256 := Nat.mod_lt _ (by decide)
  unfold oc_flip flp
  rw [nI_toInt (by omega), nI_clamp (by omega)]
  by_cases h : j = p
  · subst h
    rw [if_pos (by omega), if_pos rfl, pk_us, (hg j hj).1]
    exact ⟨xor_b x (hg j hj).2, Nat.xor_lt_two_pow (n := 8) (hg j hj).2 hx⟩
  · rw [if_neg h]
    by_cases q : 0 ≤ (p : Int) ∧ (p : Int) < n
    · rw [if_pos q, pk_un h]; exact hg j hj
    · rw [if_neg q]; exact hg j hj
theorem fm_add {a b w : Nat} (ha : a < 65536) (hb : b ≤ 100) (h0 : 0 < w) (hw : w ≤ 65536) : fm (nI a + nI b) (nI w) = nI ((a + b) % w) := by
  rw [nI_add]; exact fm_pos (by omega) h0 (by omega)
theorem rc_err_O {pB pS pG pE pC pO d n : Nat} {g : Nat → Nat} {tm : Int32} (h : rc_err pB pS pG pE pC pO d n g tm = 0) : pO ≤ n := by
  unfold rc_err at h
  by_cases q : ¬ tm = 0 ∨ n < pB / 8 + pO ∨ ¬ be g (n - pB / 8) (pB / 8) = ck pB pS pG pE d g (n - pB / 8) ∨ pC ≤ be g 0 pO
  · rw [if_pos q] at h; exact absurd h (by decide)
  · have : ¬ n < pB / 8 + pO := fun z => q (Or.inr (Or.inl z))
    omega
end
section
theorem iw_X3_collect_X3 : ∀ w ∈ wsX30, w ∈ wsX3_collect := by decide +kernel
theorem lk_X3_collect_f12 : (.fieldLink RX3 12 "DataGuards$Receiver" "row" "LDataGuards$Octets;" : Cond) ∈ wsX3_collect := by decide +kernel
theorem lk_X3_collect_f30 : (.fieldLink RX3 30 "DataGuards$Receiver" "tooMany" "Z" : Cond) ∈ wsX3_collect := by decide +kernel
set_option maxHeartbeats 4000000 in
set_option maxRecDepth 100000 in
/-- Receiver.collect(b) -/
theorem c_X3_collect (l : Launch) (D : va_G) (cy : Nat → ClassId) (sz : Nat) (h0 : Nat) (p0 : Nat) (r0 : Nat) (r1 : Nat) (tm : Int32) (cbf : Int32) (pB : Nat) (pS : Nat) (pG : Nat) (pE : Nat) (pC : Nat) (pO : Nat) (f : Nat → Int32) (n : Nat) (x : Int32) (hn : n ≤ 70) : Met l yX3_collect wsX3_collect ({ frames := 1, cells := 0, slots := 0, locals := 21 } : Room) (pre1 D cy [.ref h0, .int x] [(h0, .inr (4, [.ref p0, .ref r0, .int tm, .int cbf])), (p0, .inr (3, [.int (nI pB), .int (nI pS), .int (nI pG), .int (nI pE), .int (nI pC), .int (nI pO)])), (r0, .inr (2, [.ref r1, .int (nI n)])), (r1, .inl (cy 0, 70, .inl f))] sz) (va_Qv (fun (u : (Nat → Int32) × (Nat) × (Int32)) => (rc_col f n tm x u.1 u.2.1 u.2.2)) (fun u t => va_P D vwCl [(h0, .inr (4, [.ref p0, .ref r0, .int u.2.2, .int cbf])), (p0, .inr (3, [.int (nI pB), .int (nI pS), .int (nI pG), .int (nI pE), .int (nI pC), .int (nI pO)])), (r0, .inr (2, [.ref r1, .int (nI u.2.1)])), (r1, .inl (cy 0, 70, .inl u.1))] t.heap ∧ va_D (va_A [(h0, .inr (4, [.ref p0, .ref r0, .int tm, .int cbf])), (p0, .inr (3, [.int (nI pB), .int (nI pS), .int (nI pG), .int (nI pE), .int (nI pC), .int (nI pO)])), (r0, .inr (2, [.ref r1, .int (nI n)])), (r1, .inl (cy 0, 70, .inl f))] sz) [(h0, .inr (4, [.ref p0, .ref r0, .int u.2.2, .int cbf])), (p0, .inr (3, [.int (nI pB), .int (nI pS), .int (nI pG), .int (nI pE), .int (nI pC), .int (nI pO)])), (r0, .inr (2, [.ref r1, .int (nI u.2.1)])), (r1, .inl (cy 0, 70, .inl u.1))]) (va_A [(h0, .inr (4, [.ref p0, .ref r0, .int tm, .int cbf])), (p0, .inr (3, [.int (nI pB), .int (nI pS), .int (nI pG), .int (nI pE), .int (nI pC), .int (nI pO)])), (r0, .inr (2, [.ref r1, .int (nI n)])), (r1, .inl (cy 0, 70, .inl f))] sz)) 0 0 (va_A [(h0, .inr (4, [.ref p0, .ref r0, .int tm, .int cbf])), (p0, .inr (3, [.int (nI pB), .int (nI pS), .int (nI pG), .int (nI pE), .int (nI pC), .int (nI pO)])), (r0, .inr (2, [.ref r1, .int (nI n)])), (r1, .inl (cy 0, 70, .inl f))] sz) := by
  refine Met.ofW (cc := cX3_collect) (maxL := 2) (ret := none) (by decide) rfl ?_
  intro p e s m args below meth c s₁ B hml hv
  obtain ⟨rfl, hsz, hP, hkk, hD0⟩ := hv
  have hx := B.exec
  have hb := B.bytes
  have hr := B.returns
  have hts := atoms_spec (ws := wsX3_collect) B.pre
  have hown : s.vm.findClass RX3 = some m.cls := findClass_of_methodNamed B.named
  have hlocks := B.notSynchronized
  have hin : meth.name = _ := (name_of_methodNamed B.named B.method).1
  have hK := hkk.1
  subst hsz
  have hD := hD0.self (sz := s.heap.size)
  generalize hAe : va_A [(h0, .inr (4, [.ref p0, .ref r0, .int tm, .int cbf])), (p0, .inr (3, [.int (nI pB), .int (nI pS), .int (nI pG), .int (nI pE), .int (nI pC), .int (nI pO)])), (r0, .inr (2, [.ref r1, .int (nI n)])), (r1, .inl (cy 0, 70, .inl f))] s.heap.size = A at hD ⊢
  have hA : ∀ q : Nat, s.heap.size ≤ q → A q := fun q h => by rw [← hAe]; exact Or.inr h
  have hS : va_S A s.heap s.heap [] := va_S.rf
  have hP : va_P D vwCl [(h0, .inr (4, [.ref p0, .ref r0, .int tm, .int cbf])), (p0, .inr (3, [.int (nI pB), .int (nI pS), .int (nI pG), .int (nI pE), .int (nI pC), .int (nI pO)])), (r0, .inr (2, [.ref r1, .int (nI n)])), (r1, .inl (cy 0, 70, .inl f))] s.heap := hP
  have hl := lv_entry ([.ref h0, .int x]) (n := 2) (Nat.le_of_ble_eq_true rfl)
  rw [lg_entry_eq]
  generalize (lg_sl ([.ref h0, .int x]) ++ List.replicate (2 - (lg_sl ([.ref h0, .int x])).length) Slot.unset).toArray = ls at hl ⊢
  have hl : lv_has ls 2 [(0, .ref h0), (1, .int x)] := hl
  refine lv_aload_n hx hb dX3_collect_0 rfl (lv_at hl 0 rfl) ?_
  refine va_get (D := D) (ci := 4) (v := .ref r0) (C := RX3) (T := TX3) (N := 4) hx hb hts iw_X3_collect_X3 hown hK hP 0 rfl rfl 1 (by decide) (hts _ lk_X3_collect_f12) (fun _ h9 => h9) rfl dX3_collect_1 ?_
  refine lv_iload_n hx hb dX3_collect_4 rfl (lv_at hl 1 rfl) ?_
  have hPc := hP.sub (ws' := [(r0, .inr (2, [.ref r1, .int (nI n)])), (r1, .inl (cy 0, 70, .inl f))]) [2, 3] rfl
  have hDc := hD.sub (ws' := [(r0, .inr (2, [.ref r1, .int (nI n)])), (r1, .inl (cy 0, 70, .inl f))]) [2, 3] (by decide) rfl
  have hFc := va_free (wc := [(r0, .inr (2, [.ref r1, .int (nI n)])), (r1, .inl (cy 0, 70, .inl f))]) hD hS hA [2, 3] rfl
  refine va_calli (va_runV (As := [.int x]) (rest := []) ⟨hx, hb, hml, hown, hts⟩ (c_X1_add l D cy s.heap.size r0 r1 f n x (by first | assumption | omega)) (cwV 1 hts gX3_collect_X1_add rfl rfl rfl (by decide +kernel) ⟨Nat.le_of_ble_eq_true rfl, Nat.le_of_ble_eq_true rfl⟩) (pv_V (ci := 2) (q := (RX1, TX1, 2)) hkk hPc hDc rfl rfl rfl) rfl rfl hl.1 rfl (lv_room (Nat.le_of_ble_eq_true rfl)) dX3_collect_5 ⟨Nat.le_of_ble_eq_true rfl, Nat.le_of_ble_eq_true rfl⟩) hS (fun q _ h => hFc q h) hFc (fun r_5 u t H1 locs ht hvm hw hB hz1 hk1 hS => ?_)
  obtain ⟨f2_5, n2_5⟩ := u
  obtain ⟨hP1, hD1⟩ := hB
  rw [ht] at hP1
  try dsimp only at hw hP1 hD1
  obtain ⟨hP, hD⟩ := va_join (wr := [(h0, .inr (4, [.ref p0, .ref r0, .int tm, .int cbf])), (p0, .inr (3, [.int (nI pB), .int (nI pS), .int (nI pG), .int (nI pE), .int (nI pC), .int (nI pO)]))]) (w1 := [(r0, .inr (2, [.ref r1, .int (nI n2_5)])), (r1, .inl (cy 0, 70, .inl f2_5))]) hP hD [2, 3] [0, 1] rfl rfl (by decide) (by decide) hk1 hFc hP1 hD1
  clear hPc hDc hFc hP1 hD1 hz1 hk1
  generalize H1 = H at hP hS ⊢
  have hP : va_P D vwCl [(h0, .inr (4, [.ref p0, .ref r0, .int tm, .int cbf])), (p0, .inr (3, [.int (nI pB), .int (nI pS), .int (nI pG), .int (nI pE), .int (nI pC), .int (nI pO)])), (r0, .inr (2, [.ref r1, .int (nI n2_5)])), (r1, .inl (cy 0, 70, .inl f2_5))] H := hP
  have hD : va_D A [(h0, .inr (4, [.ref p0, .ref r0, .int tm, .int cbf])), (p0, .inr (3, [.int (nI pB), .int (nI pS), .int (nI pG), .int (nI pE), .int (nI pC), .int (nI pO)])), (r0, .inr (2, [.ref r1, .int (nI n2_5)])), (r1, .inl (cy 0, 70, .inl f2_5))] := hD
  have hw_5 := hw
  refine lv_if_ne (tgt := 16) hx hb dX3_collect_8 (by decide) (fun c_8 => ?_) (fun c_8 => ?_)
  · have hP9 := hP.sub (ws' := [(h0, .inr (4, [.ref p0, .ref r0, .int tm, .int cbf])), (p0, .inr (3, [.int (nI pB), .int (nI pS), .int (nI pG), .int (nI pE), .int (nI pC), .int (nI pO)])), (r0, .inr (2, [.ref r1, .int (nI n2_5)])), (r1, .inl (cy 0, 70, .inl f2_5))]) [0, 1, 2, 3] rfl
    have hD9 := hD.sub (ws' := [(h0, .inr (4, [.ref p0, .ref r0, .int tm, .int cbf])), (p0, .inr (3, [.int (nI pB), .int (nI pS), .int (nI pG), .int (nI pE), .int (nI pC), .int (nI pO)])), (r0, .inr (2, [.ref r1, .int (nI n2_5)])), (r1, .inl (cy 0, 70, .inl f2_5))]) [0, 1, 2, 3] (by decide) rfl
    exact W.vret hx hb hr (fun t ht hW => ⟨⟨(f2_5, n2_5, tm), rfl, oc_add_nz hw_5 c_8, by rw [ht]; exact hP9, hD9⟩, hS.F ht⟩) hS.2.2 dX3_collect_16
  · refine lv_aload_n hx hb dX3_collect_11 rfl (lv_at hl 0 rfl) ?_
    refine lv_iconst (v := 1) hx hb dX3_collect_12 (by decide) ?_
    refine va_put (D := D) (ci := 4) (v := .int 1) (ty := .boolean) (C := RX3) (T := TX3) (N := 4) hx hb hts iw_X3_collect_X3 tyX3 tyX3_ok nmX3 hown hK hP hD hS 0 rfl rfl 2 (by decide) (hts _ lk_X3_collect_f30) (fun _ h9 => h9) rfl (by decide +kernel) rfl rfl (Nat.le_of_ble_eq_true rfl) dX3_collect_13 (fun H locs hP hD hS => ?_)
    have hP : va_P D vwCl [(h0, .inr (4, [.ref p0, .ref r0, .int 1, .int cbf])), (p0, .inr (3, [.int (nI pB), .int (nI pS), .int (nI pG), .int (nI pE), .int (nI pC), .int (nI pO)])), (r0, .inr (2, [.ref r1, .int (nI n2_5)])), (r1, .inl (cy 0, 70, .inl f2_5))] H := hP
    have hD : va_D A [(h0, .inr (4, [.ref p0, .ref r0, .int 1, .int cbf])), (p0, .inr (3, [.int (nI pB), .int (nI pS), .int (nI pG), .int (nI pE), .int (nI pC), .int (nI pO)])), (r0, .inr (2, [.ref r1, .int (nI n2_5)])), (r1, .inl (cy 0, 70, .inl f2_5))] := hD
    have hP9 := hP.sub (ws' := [(h0, .inr (4, [.ref p0, .ref r0, .int 1, .int cbf])), (p0, .inr (3, [.int (nI pB), .int (nI pS), .int (nI pG), .int (nI pE), .int (nI pC), .int (nI pO)])), (r0, .inr (2, [.ref r1, .int (nI n2_5)])), (r1, .inl (cy 0, 70, .inl f2_5))]) [0, 1, 2, 3] rfl
    have hD9 := hD.sub (ws' := [(h0, .inr (4, [.ref p0, .ref r0, .int 1, .int cbf])), (p0, .inr (3, [.int (nI pB), .int (nI pS), .int (nI pG), .int (nI pE), .int (nI pC), .int (nI pO)])), (r0, .inr (2, [.ref r1, .int (nI n2_5)])), (r1, .inl (cy 0, 70, .inl f2_5))]) [0, 1, 2, 3] (by decide) rfl
    exact W.vret hx hb hr (fun t ht hW => ⟨⟨(f2_5, n2_5, 1), rfl, oc_add_z hw_5 c_8, by rw [ht]; exact hP9, hD9⟩, hS.F ht⟩) hS.2.2 dX3_collect_16

theorem iw_X3_rowCounter_X3 : ∀ w ∈ wsX30, w ∈ wsX3_rowCounter := by decide +kernel
theorem lk_X3_rowCounter_f12 : (.fieldLink RX3 12 "DataGuards$Receiver" "row" "LDataGuards$Octets;" : Cond) ∈ wsX3_rowCounter := by decide +kernel
theorem lk_X3_rowCounter_f22 : (.fieldLink RX3 22 "DataGuards$Receiver" "profile" "LDataGuards$Profile;" : Cond) ∈ wsX3_rowCounter := by decide +kernel
theorem iw_X3_rowCounter_X2 : ∀ w ∈ wsX20, w ∈ wsX3_rowCounter := by decide +kernel
set_option maxHeartbeats 4000000 in
set_option maxRecDepth 100000 in
theorem c_X3_rowCounter (l : Launch) (D : va_G) (cy : Nat → ClassId) (sz : Nat) (h0 : Nat) (p0 : Nat) (r0 : Nat) (r1 : Nat) (tm : Int32) (cbf : Int32) (pB : Nat) (pS : Nat) (pG : Nat) (pE : Nat) (pC : Nat) (pO : Nat) (f : Nat → Int32) (n : Nat) (g : Nat → Nat) (hn : n ≤ 70) (hg : oc_is f n g) (hpv : pvd pB pS pG pE pC pO) (hO : pO ≤ n) : Met l yX3_rowCounter wsX3_rowCounter ({ frames := 3, cells := 0, slots := 0, locals := 66 } : Room) (pre1 D cy [.ref h0] [(h0, .inr (4, [.ref p0, .ref r0, .int tm, .int cbf])), (p0, .inr (3, [.int (nI pB), .int (nI pS), .int (nI pG), .int (nI pE), .int (nI pC), .int (nI pO)])), (r0, .inr (2, [.ref r1, .int (nI n)])), (r1, .inl (cy 0, 70, .inl f))] sz) (va_Qi (fun (r : Int32) (u : Unit) => r = nI (be g 0 pO)) (fun u t => va_P D vwCl [(h0, .inr (4, [.ref p0, .ref r0, .int tm, .int cbf])), (p0, .inr (3, [.int (nI pB), .int (nI pS), .int (nI pG), .int (nI pE), .int (nI pC), .int (nI pO)])), (r0, .inr (2, [.ref r1, .int (nI n)])), (r1, .inl (cy 0, 70, .inl f))] t.heap ∧ va_D (va_A [(h0, .inr (4, [.ref p0, .ref r0, .int tm, .int cbf])), (p0, .inr (3, [.int (nI pB), .int (nI pS), .int (nI pG), .int (nI pE), .int (nI pC), .int (nI pO)])), (r0, .inr (2, [.ref r1, .int (nI n)])), (r1, .inl (cy 0, 70, .inl f))] sz) [(h0, .inr (4, [.ref p0, .ref r0, .int tm, .int cbf])), (p0, .inr (3, [.int (nI pB), .int (nI pS), .int (nI pG), .int (nI pE), .int (nI pC), .int (nI pO)])), (r0, .inr (2, [.ref r1, .int (nI n)])), (r1, .inl (cy 0, 70, .inl f))]) (va_A [(h0, .inr (4, [.ref p0, .ref r0, .int tm, .int cbf])), (p0, .inr (3, [.int (nI pB), .int (nI pS), .int (nI pG), .int (nI pE), .int (nI pC), .int (nI pO)])), (r0, .inr (2, [.ref r1, .int (nI n)])), (r1, .inl (cy 0, 70, .inl f))] sz)) 0 0 (va_A [(h0, .inr (4, [.ref p0, .ref r0, .int tm, .int cbf])), (p0, .inr (3, [.int (nI pB), .int (nI pS), .int (nI pG), .int (nI pE), .int (nI pC), .int (nI pO)])), (r0, .inr (2, [.ref r1, .int (nI n)])), (r1, .inl (cy 0, 70, .inl f))] sz) := by
  refine Met.ofW (cc := cX3_rowCounter) (maxL := 1) (ret := (some .int)) (by decide) rfl ?_
  intro p e s m args below meth c s₁ B hml hv
  obtain ⟨rfl, hsz, hP, hkk, hD0⟩ := hv
  have hx := B.exec
  have hb := B.bytes
  have hr := B.returns
  have hts := atoms_spec (ws := wsX3_rowCounter) B.pre
  have hown : s.vm.findClass RX3 = some m.cls := findClass_of_methodNamed B.named
  have hlocks := B.notSynchronized
  have hin : meth.name = _ := (name_of_methodNamed B.named B.method).1
  have hK := hkk.1
  subst hsz
  have hD := hD0.self (sz := s.heap.size)
  generalize hAe : va_A [(h0, .inr (4, [.ref p0, .ref r0, .int tm, .int cbf])), (p0, .inr (3, [.int (nI pB), .int (nI pS), .int (nI pG), .int (nI pE), .int (nI pC), .int (nI pO)])), (r0, .inr (2, [.ref r1, .int (nI n)])), (r1, .inl (cy 0, 70, .inl f))] s.heap.size = A at hD ⊢
  have hA : ∀ q : Nat, s.heap.size ≤ q → A q := fun q h => by rw [← hAe]; exact Or.inr h
  have hS : va_S A s.heap s.heap [] := va_S.rf
  have hP : va_P D vwCl [(h0, .inr (4, [.ref p0, .ref r0, .int tm, .int cbf])), (p0, .inr (3, [.int (nI pB), .int (nI pS), .int (nI pG), .int (nI pE), .int (nI pC), .int (nI pO)])), (r0, .inr (2, [.ref r1, .int (nI n)])), (r1, .inl (cy 0, 70, .inl f))] s.heap := hP
  have hl := lv_entry ([.ref h0]) (n := 1) (Nat.le_of_ble_eq_true rfl)
  rw [lg_entry_eq]
  generalize (lg_sl ([.ref h0]) ++ List.replicate (1 - (lg_sl ([.ref h0])).length) Slot.unset).toArray = ls at hl ⊢
  have hl : lv_has ls 1 [(0, .ref h0)] := hl
  refine lv_aload_n hx hb dX3_rowCounter_0 rfl (lv_at hl 0 rfl) ?_
  refine va_get (D := D) (ci := 4) (v := .ref r0) (C := RX3) (T := TX3) (N := 4) hx hb hts iw_X3_rowCounter_X3 hown hK hP 0 rfl rfl 1 (by decide) (hts _ lk_X3_rowCounter_f12) (fun _ h9 => h9) rfl dX3_rowCounter_1 ?_
  refine lv_iconst (v := 0) hx hb dX3_rowCounter_4 (by decide) ?_
  refine lv_topi (fun x_4 ex_4 => ?_)
  obtain rfl : x_4 = nI 0 := by rw [ex_4]; exact nI_0.symm
  refine lv_aload_n hx hb dX3_rowCounter_5 rfl (lv_at hl 0 rfl) ?_
  refine va_get (D := D) (ci := 4) (v := .ref p0) (C := RX3) (T := TX3) (N := 4) hx hb hts iw_X3_rowCounter_X3 hown hK hP 0 rfl rfl 0 (by decide) (hts _ lk_X3_rowCounter_f22) (fun _ h9 => h9) rfl dX3_rowCounter_6 ?_
  refine va_getN (D := D) (ci := 3) (v := .int (nI pO)) (C := RX2) (T := TX2) (N := 6) hx hb hts iw_X3_rowCounter_X2 hown hK hP 1 rfl rfl 5 (by decide) (nw_use 1 rfl rfl hkk.2) (fun _ h9 => h9) rfl dX3_rowCounter_9 ?_
  have hPc := hP.sub (ws' := [(r0, .inr (2, [.ref r1, .int (nI n)])), (r1, .inl (cy 0, 70, .inl f))]) [2, 3] rfl
  have hDc := hD.sub (ws' := [(r0, .inr (2, [.ref r1, .int (nI n)])), (r1, .inl (cy 0, 70, .inl f))]) [2, 3] (by decide) rfl
  have hFc := va_free (wc := [(r0, .inr (2, [.ref r1, .int (nI n)])), (r1, .inl (cy 0, 70, .inl f))]) hD hS hA [2, 3] rfl
  refine va_calli (va_runV (As := [.int (nI 0), .int (nI pO)]) (rest := []) ⟨hx, hb, hml, hown, hts⟩ (c_X1_numberAt l D cy s.heap.size r0 r1 f n (nI 0) pO (by first | assumption | omega) (by have := hpv.2.2.2.2.2.2; omega)) (cwV 2 hts gX3_rowCounter_X1_numberAt rfl rfl rfl (by decide +kernel) ⟨Nat.le_of_ble_eq_true rfl, Nat.le_of_ble_eq_true rfl⟩) (pv_V (ci := 2) (q := (RX1, TX1, 2)) hkk hPc hDc rfl rfl rfl) rfl rfl hl.1 rfl (lv_room (Nat.le_of_ble_eq_true rfl)) dX3_rowCounter_12 ⟨Nat.le_of_ble_eq_true rfl, Nat.le_of_ble_eq_true rfl⟩) hS (fun q _ h => hFc q h) hFc (fun r_12 u t H1 locs ht hvm hw hB hz1 hk1 hS => ?_)
  obtain ⟨hP1, hD1⟩ := hB
  rw [ht] at hP1
  try dsimp only at hw hP1 hD1
  obtain ⟨hP, hD⟩ := va_join (wr := [(h0, .inr (4, [.ref p0, .ref r0, .int tm, .int cbf])), (p0, .inr (3, [.int (nI pB), .int (nI pS), .int (nI pG), .int (nI pE), .int (nI pC), .int (nI pO)]))]) (w1 := [(r0, .inr (2, [.ref r1, .int (nI n)])), (r1, .inl (cy 0, 70, .inl f))]) hP hD [2, 3] [0, 1] rfl rfl (by decide) (by decide) hk1 hFc hP1 hD1
  clear hPc hDc hFc hP1 hD1 hz1 hk1
  generalize H1 = H at hP hS ⊢
  have hP : va_P D vwCl [(h0, .inr (4, [.ref p0, .ref r0, .int tm, .int cbf])), (p0, .inr (3, [.int (nI pB), .int (nI pS), .int (nI pG), .int (nI pE), .int (nI pC), .int (nI pO)])), (r0, .inr (2, [.ref r1, .int (nI n)])), (r1, .inl (cy 0, 70, .inl f))] H := hP
  have hD : va_D A [(h0, .inr (4, [.ref p0, .ref r0, .int tm, .int cbf])), (p0, .inr (3, [.int (nI pB), .int (nI pS), .int (nI pG), .int (nI pE), .int (nI pC), .int (nI pO)])), (r0, .inr (2, [.ref r1, .int (nI n)])), (r1, .inl (cy 0, 70, .inl f))] := hD
  obtain rfl := hw
  refine lv_topi (fun x_12 ex_12 => ?_)
  obtain rfl : x_12 = nI (be g 0 pO) := by rw [ex_12]; exact oc_num_be hg hn pO (by have := hpv.2.2.2.2.2.2; omega) (by omega)
  have hP9 := hP.sub (ws' := [(h0, .inr (4, [.ref p0, .ref r0, .int tm, .int cbf])), (p0, .inr (3, [.int (nI pB), .int (nI pS), .int (nI pG), .int (nI pE), .int (nI pC), .int (nI pO)])), (r0, .inr (2, [.ref r1, .int (nI n)])), (r1, .inl (cy 0, 70, .inl f))]) [0, 1, 2, 3] rfl
  have hD9 := hD.sub (ws' := [(h0, .inr (4, [.ref p0, .ref r0, .int tm, .int cbf])), (p0, .inr (3, [.int (nI pB), .int (nI pS), .int (nI pG), .int (nI pE), .int (nI pC), .int (nI pO)])), (r0, .inr (2, [.ref r1, .int (nI n)])), (r1, .inl (cy 0, 70, .inl f))]) [0, 1, 2, 3] (by decide) rfl
  exact W.iret (v := nI (be g 0 pO)) hx hb hr (fun t ht hW => ⟨⟨nI (be g 0 pO), (), rfl, rfl, by rw [ht]; exact hP9, hD9⟩, hS.F ht⟩) hS.2.2 dX3_rowCounter_15


set_option maxHeartbeats 4000000 in
set_option maxRecDepth 100000 in
theorem c_X3_findingOfSteps (l : Launch) (D : va_G) (cy : Nat → ClassId) (sz : Nat) (x : Int32)  : Met l yX3_findingOfSteps wsX3_findingOfSteps ({ frames := 0, cells := 0, slots := 0, locals := 0 } : Room) (pre1 D cy [.int x] [] sz) (va_Qi (fun (r : Int32) (u : Unit) => r = fst x) (fun u t => va_P D vwCl [] t.heap ∧ va_D (va_A [] sz) []) (va_A [] sz)) 0 0 (va_A [] sz) := by
  refine Met.ofW (cc := cX3_findingOfSteps) (maxL := 1) (ret := (some .int)) (by decide) rfl ?_
  intro p e s m args below meth c s₁ B hml hv
  obtain ⟨rfl, hsz, hP, hkk, hD0⟩ := hv
  have hx := B.exec
  have hb := B.bytes
  have hr := B.returns
  have hts := atoms_spec (ws := wsX3_findingOfSteps) B.pre
  have hown : s.vm.findClass RX3 = some m.cls := findClass_of_methodNamed B.named
  have hlocks := B.notSynchronized
  have hin : meth.name = _ := (name_of_methodNamed B.named B.method).1
  have hK := hkk.1
  subst hsz
  have hD := hD0.self (sz := s.heap.size)
  generalize hAe : va_A [] s.heap.size = A at hD ⊢
  have hA : ∀ q : Nat, s.heap.size ≤ q → A q := fun q h => by rw [← hAe]; exact Or.inr h
  have hS : va_S A s.heap s.heap [] := va_S.rf
  have hP : va_P D vwCl [] s.heap := hP
  have hl := lv_entry ([.int x]) (n := 1) (Nat.le_of_ble_eq_true rfl)
  rw [lg_entry_eq]
  generalize (lg_sl ([.int x]) ++ List.replicate (1 - (lg_sl ([.int x])).length) Slot.unset).toArray = ls at hl ⊢
  have hl : lv_has ls 1 [(0, .int x)] := hl
  refine lv_iload_n hx hb dX3_findingOfSteps_0 rfl (lv_at hl 0 rfl) ?_
  refine lv_if_ne (tgt := 6) hx hb dX3_findingOfSteps_1 (by decide) (fun c_1 => ?_) (fun c_1 => ?_)
  · refine lv_iload_n hx hb dX3_findingOfSteps_6 rfl (lv_at hl 0 rfl) ?_
    refine lv_iconst (v := 1) hx hb dX3_findingOfSteps_7 (by decide) ?_
    refine lv_icmp_ne (tgt := 13) hx hb dX3_findingOfSteps_8 (by decide) (fun c_8 => ?_) (fun c_8 => ?_)
    · refine lv_iload_n hx hb dX3_findingOfSteps_13 rfl (lv_at hl 0 rfl) ?_
      refine lv_iconst (v := 3) hx hb dX3_findingOfSteps_14 (by decide) ?_
      refine lv_icmp_gt (tgt := 22) hx hb dX3_findingOfSteps_15 (by decide) (fun c_15 => ?_) (fun c_15 => ?_)
      · refine lv_iconst (v := 3) hx hb dX3_findingOfSteps_22 (by decide) ?_
        have hP9 := hP.sub (ws' := []) [] rfl
        have hD9 := hD.sub (ws' := []) [] (by decide) rfl
        exact W.iret (v := 3) hx hb hr (fun t ht hW => ⟨⟨3, (), rfl, by unfold fst; rw [if_neg c_1, if_neg c_8, if_pos c_15], by rw [ht]; exact hP9, hD9⟩, hS.F ht⟩) hS.2.2 dX3_findingOfSteps_23
      · refine lv_iconst (v := 2) hx hb dX3_findingOfSteps_18 (by decide) ?_
        refine lv_goto (tgt := 23) hx hb dX3_findingOfSteps_19 (by decide) ?_
        have hP9 := hP.sub (ws' := []) [] rfl
        have hD9 := hD.sub (ws' := []) [] (by decide) rfl
        exact W.iret (v := 2) hx hb hr (fun t ht hW => ⟨⟨2, (), rfl, by unfold fst; rw [if_neg c_1, if_neg c_8, if_neg c_15], by rw [ht]; exact hP9, hD9⟩, hS.F ht⟩) hS.2.2 dX3_findingOfSteps_23
    · refine lv_iconst (v := 0) hx hb dX3_findingOfSteps_11 (by decide) ?_
      have hP9 := hP.sub (ws' := []) [] rfl
      have hD9 := hD.sub (ws' := []) [] (by decide) rfl
      exact W.iret (v := 0) hx hb hr (fun t ht hW => ⟨⟨0, (), rfl, by unfold fst; rw [if_neg c_1, if_pos c_8], by rw [ht]; exact hP9, hD9⟩, hS.F ht⟩) hS.2.2 dX3_findingOfSteps_12
  · refine lv_iconst (v := 1) hx hb dX3_findingOfSteps_4 (by decide) ?_
    have hP9 := hP.sub (ws' := []) [] rfl
    have hD9 := hD.sub (ws' := []) [] (by decide) rfl
    exact W.iret (v := 1) hx hb hr (fun t ht hW => ⟨⟨1, (), rfl, by unfold fst; rw [if_pos c_1], by rw [ht]; exact hP9, hD9⟩, hS.F ht⟩) hS.2.2 dX3_findingOfSteps_5

theorem iw_X3_findingOf_X3 : ∀ w ∈ wsX30, w ∈ wsX3_findingOf := by decide +kernel
theorem lk_X3_findingOf_f18 : (.fieldLink RX3 18 "DataGuards$Receiver" "counterBefore" "I" : Cond) ∈ wsX3_findingOf := by decide +kernel
theorem lk_X3_findingOf_f22 : (.fieldLink RX3 22 "DataGuards$Receiver" "profile" "LDataGuards$Profile;" : Cond) ∈ wsX3_findingOf := by decide +kernel
set_option maxHeartbeats 4000000 in
set_option maxRecDepth 100000 in
theorem c_X3_findingOf (l : Launch) (D : va_G) (cy : Nat → ClassId) (sz : Nat) (h0 : Nat) (p0 : Nat) (r0 : Nat) (r1 : Nat) (tm : Int32) (cbf : Int32) (pB : Nat) (pS : Nat) (pG : Nat) (pE : Nat) (pC : Nat) (pO : Nat) (f : Nat → Int32) (n : Nat) (v : Int32) (hpv : pvd pB pS pG pE pC pO) : Met l yX3_findingOf wsX3_findingOf ({ frames := 2, cells := 0, slots := 0, locals := 43 } : Room) (pre1 D cy [.ref h0, .int v] [(h0, .inr (4, [.ref p0, .ref r0, .int tm, .int cbf])), (p0, .inr (3, [.int (nI pB), .int (nI pS), .int (nI pG), .int (nI pE), .int (nI pC), .int (nI pO)])), (r0, .inr (2, [.ref r1, .int (nI n)])), (r1, .inl (cy 0, 70, .inl f))] sz) (va_Qi (fun (r : Int32) (u : Unit) => r = rc_fd cbf v pC) (fun u t => va_P D vwCl [(h0, .inr (4, [.ref p0, .ref r0, .int tm, .int v])), (p0, .inr (3, [.int (nI pB), .int (nI pS), .int (nI pG), .int (nI pE), .int (nI pC), .int (nI pO)])), (r0, .inr (2, [.ref r1, .int (nI n)])), (r1, .inl (cy 0, 70, .inl f))] t.heap ∧ va_D (va_A [(h0, .inr (4, [.ref p0, .ref r0, .int tm, .int cbf])), (p0, .inr (3, [.int (nI pB), .int (nI pS), .int (nI pG), .int (nI pE), .int (nI pC), .int (nI pO)])), (r0, .inr (2, [.ref r1, .int (nI n)])), (r1, .inl (cy 0, 70, .inl f))] sz) [(h0, .inr (4, [.ref p0, .ref r0, .int tm, .int v])), (p0, .inr (3, [.int (nI pB), .int (nI pS), .int (nI pG), .int (nI pE), .int (nI pC), .int (nI pO)])), (r0, .inr (2, [.ref r1, .int (nI n)])), (r1, .inl (cy 0, 70, .inl f))]) (va_A [(h0, .inr (4, [.ref p0, .ref r0, .int tm, .int cbf])), (p0, .inr (3, [.int (nI pB), .int (nI pS), .int (nI pG), .int (nI pE), .int (nI pC), .int (nI pO)])), (r0, .inr (2, [.ref r1, .int (nI n)])), (r1, .inl (cy 0, 70, .inl f))] sz)) 0 0 (va_A [(h0, .inr (4, [.ref p0, .ref r0, .int tm, .int cbf])), (p0, .inr (3, [.int (nI pB), .int (nI pS), .int (nI pG), .int (nI pE), .int (nI pC), .int (nI pO)])), (r0, .inr (2, [.ref r1, .int (nI n)])), (r1, .inl (cy 0, 70, .inl f))] sz) := by
  refine Met.ofW (cc := cX3_findingOf) (maxL := 3) (ret := (some .int)) (by decide) rfl ?_
  intro p e s m args below meth c s₁ B hml hv
  obtain ⟨rfl, hsz, hP, hkk, hD0⟩ := hv
  have hx := B.exec
  have hb := B.bytes
  have hr := B.returns
  have hts := atoms_spec (ws := wsX3_findingOf) B.pre
  have hown : s.vm.findClass RX3 = some m.cls := findClass_of_methodNamed B.named
  have hlocks := B.notSynchronized
  have hin : meth.name = _ := (name_of_methodNamed B.named B.method).1
  have hK := hkk.1
  subst hsz
  have hD := hD0.self (sz := s.heap.size)
  generalize hAe : va_A [(h0, .inr (4, [.ref p0, .ref r0, .int tm, .int cbf])), (p0, .inr (3, [.int (nI pB), .int (nI pS), .int (nI pG), .int (nI pE), .int (nI pC), .int (nI pO)])), (r0, .inr (2, [.ref r1, .int (nI n)])), (r1, .inl (cy 0, 70, .inl f))] s.heap.size = A at hD ⊢
  have hA : ∀ q : Nat, s.heap.size ≤ q → A q := fun q h => by rw [← hAe]; exact Or.inr h
  have hS : va_S A s.heap s.heap [] := va_S.rf
  have hP : va_P D vwCl [(h0, .inr (4, [.ref p0, .ref r0, .int tm, .int cbf])), (p0, .inr (3, [.int (nI pB), .int (nI pS), .int (nI pG), .int (nI pE), .int (nI pC), .int (nI pO)])), (r0, .inr (2, [.ref r1, .int (nI n)])), (r1, .inl (cy 0, 70, .inl f))] s.heap := hP
  have hl := lv_entry ([.ref h0, .int v]) (n := 3) (Nat.le_of_ble_eq_true rfl)
  rw [lg_entry_eq]
  generalize (lg_sl ([.ref h0, .int v]) ++ List.replicate (3 - (lg_sl ([.ref h0, .int v])).length) Slot.unset).toArray = ls at hl ⊢
  have hl : lv_has ls 3 [(0, .ref h0), (1, .int v)] := hl
  refine lv_aload_n hx hb dX3_findingOf_0 rfl (lv_at hl 0 rfl) ?_
  refine va_get (D := D) (ci := 4) (v := .int cbf) (C := RX3) (T := TX3) (N := 4) hx hb hts iw_X3_findingOf_X3 hown hK hP 0 rfl rfl 3 (by decide) (hts _ lk_X3_findingOf_f18) (fun _ h9 => h9) rfl dX3_findingOf_1 ?_
  refine lv_istore_n (lv' := [(2, .int cbf), (0, .ref h0), (1, .int v)]) hx hb dX3_findingOf_4 rfl hl (by decide) rfl (fun ls hl => ?_)
  refine lv_aload_n hx hb dX3_findingOf_5 rfl (lv_at hl 1 rfl) ?_
  refine lv_iload_n hx hb dX3_findingOf_6 rfl (lv_at hl 2 rfl) ?_
  refine va_put (D := D) (ci := 4) (v := .int v) (ty := .int) (C := RX3) (T := TX3) (N := 4) hx hb hts iw_X3_findingOf_X3 tyX3 tyX3_ok nmX3 hown hK hP hD hS 0 rfl rfl 3 (by decide) (hts _ lk_X3_findingOf_f18) (fun _ h9 => h9) rfl (by decide +kernel) rfl rfl (Nat.le_of_ble_eq_true rfl) dX3_findingOf_7 (fun H locs hP hD hS => ?_)
  have hP : va_P D vwCl [(h0, .inr (4, [.ref p0, .ref r0, .int tm, .int v])), (p0, .inr (3, [.int (nI pB), .int (nI pS), .int (nI pG), .int (nI pE), .int (nI pC), .int (nI pO)])), (r0, .inr (2, [.ref r1, .int (nI n)])), (r1, .inl (cy 0, 70, .inl f))] H := hP
  have hD : va_D A [(h0, .inr (4, [.ref p0, .ref r0, .int tm, .int v])), (p0, .inr (3, [.int (nI pB), .int (nI pS), .int (nI pG), .int (nI pE), .int (nI pC), .int (nI pO)])), (r0, .inr (2, [.ref r1, .int (nI n)])), (r1, .inl (cy 0, 70, .inl f))] := hD
  refine lv_iload_n hx hb dX3_findingOf_10 rfl (lv_at hl 0 rfl) ?_
  refine lv_iconst (v := (-1)) hx hb dX3_findingOf_11 (by decide) ?_
  refine lv_icmp_ne (tgt := 19) hx hb dX3_findingOf_12 (by decide) (fun c_12 => ?_) (fun c_12 => ?_)
  · refine lv_aload_n hx hb dX3_findingOf_19 rfl (lv_at hl 1 rfl) ?_
    refine va_get (D := D) (ci := 4) (v := .ref p0) (C := RX3) (T := TX3) (N := 4) hx hb hts iw_X3_findingOf_X3 hown hK hP 0 rfl rfl 0 (by decide) (hts _ lk_X3_findingOf_f22) (fun _ h9 => h9) rfl dX3_findingOf_20 ?_
    refine lv_iload_n hx hb dX3_findingOf_23 rfl (lv_at hl 2 rfl) ?_
    refine lv_iload_n hx hb dX3_findingOf_24 rfl (lv_at hl 0 rfl) ?_
    refine lv_isub hx hb dX3_findingOf_25 ?_
    have hPc := hP.sub (ws' := [(p0, .inr (3, [.int (nI pB), .int (nI pS), .int (nI pG), .int (nI pE), .int (nI pC), .int (nI pO)]))]) [1] rfl
    have hDc := hD.sub (ws' := [(p0, .inr (3, [.int (nI pB), .int (nI pS), .int (nI pG), .int (nI pE), .int (nI pC), .int (nI pO)]))]) [1] (by decide) rfl
    have hFc := va_free (wc := [(p0, .inr (3, [.int (nI pB), .int (nI pS), .int (nI pG), .int (nI pE), .int (nI pC), .int (nI pO)]))]) hD hS hA [1] rfl
    refine va_calli (va_runV (As := [.int (v - cbf)]) (rest := []) ⟨hx, hb, hml, hown, hts⟩ (c_X2_goingRound l D cy H.size p0 pB pS pG pE pC pO (v - cbf) hpv.2.2.2.2.1 hpv.2.2.2.2.2.1) (cwV 1 hts gX3_findingOf_X2_goingRound rfl rfl rfl (by decide +kernel) ⟨Nat.le_of_ble_eq_true rfl, Nat.le_of_ble_eq_true rfl⟩) (pv_V (ci := 3) (q := (RX2, TX2, 6)) hkk hPc hDc rfl rfl rfl) rfl rfl hl.1 rfl (lv_room (Nat.le_of_ble_eq_true rfl)) dX3_findingOf_26 ⟨Nat.le_of_ble_eq_true rfl, Nat.le_of_ble_eq_true rfl⟩) hS (fun q _ h => hFc q h) hFc (fun r_26 u t H1 locs ht hvm hw hB hz1 hk1 hS => ?_)
    obtain ⟨hP1, hD1⟩ := hB
    rw [ht] at hP1
    try dsimp only at hw hP1 hD1
    obtain ⟨hP, hD⟩ := va_join (wr := [(h0, .inr (4, [.ref p0, .ref r0, .int tm, .int v])), (r0, .inr (2, [.ref r1, .int (nI n)])), (r1, .inl (cy 0, 70, .inl f))]) (w1 := [(p0, .inr (3, [.int (nI pB), .int (nI pS), .int (nI pG), .int (nI pE), .int (nI pC), .int (nI pO)]))]) hP hD [1] [0, 2, 3] rfl rfl (by decide) (by decide) hk1 hFc hP1 hD1
    clear hPc hDc hFc hP1 hD1 hz1 hk1
    generalize H1 = H at hP hS ⊢
    have hP : va_P D vwCl [(h0, .inr (4, [.ref p0, .ref r0, .int tm, .int v])), (r0, .inr (2, [.ref r1, .int (nI n)])), (r1, .inl (cy 0, 70, .inl f)), (p0, .inr (3, [.int (nI pB), .int (nI pS), .int (nI pG), .int (nI pE), .int (nI pC), .int (nI pO)]))] H := hP
    have hD : va_D A [(h0, .inr (4, [.ref p0, .ref r0, .int tm, .int v])), (r0, .inr (2, [.ref r1, .int (nI n)])), (r1, .inl (cy 0, 70, .inl f)), (p0, .inr (3, [.int (nI pB), .int (nI pS), .int (nI pG), .int (nI pE), .int (nI pC), .int (nI pO)]))] := hD
    obtain rfl := hw
    have hPc := hP.sub (ws' := []) [] rfl
    have hDc := hD.sub (ws' := []) [] (by decide) rfl
    have hFc := va_free (wc := []) hD hS hA [] rfl
    refine va_calli (va_runS (As := [.int (fm (v - cbf) (nI pC))]) (rest := []) ⟨hx, hb, hml, hown, hts⟩ (c_X3_findingOfSteps l D cy H.size (fm (v - cbf) (nI pC)) ) (va_cwS 1 hts gX3_findingOf_X3_findingOfSteps rfl rfl rfl (by decide +kernel) ⟨Nat.le_of_ble_eq_true rfl, Nat.le_of_ble_eq_true rfl⟩) (pv_S hkk hPc hDc rfl) rfl rfl hl.1 rfl (lv_room (Nat.le_of_ble_eq_true rfl)) dX3_findingOf_29 ⟨Nat.le_of_ble_eq_true rfl, Nat.le_of_ble_eq_true rfl⟩) hS (fun q _ h => hFc q h) hFc (fun r_29 u t H1 locs ht hvm hw hB hz1 hk1 hS => ?_)
    obtain ⟨hP1, hD1⟩ := hB
    rw [ht] at hP1
    try dsimp only at hw hP1 hD1
    obtain ⟨hP, hD⟩ := va_join (wr := [(h0, .inr (4, [.ref p0, .ref r0, .int tm, .int v])), (r0, .inr (2, [.ref r1, .int (nI n)])), (r1, .inl (cy 0, 70, .inl f)), (p0, .inr (3, [.int (nI pB), .int (nI pS), .int (nI pG), .int (nI pE), .int (nI pC), .int (nI pO)]))]) (w1 := []) hP hD [] [0, 1, 2, 3] rfl rfl (by decide) (by decide) hk1 hFc hP1 hD1
    clear hPc hDc hFc hP1 hD1 hz1 hk1
    generalize H1 = H at hP hS ⊢
    have hP : va_P D vwCl [(h0, .inr (4, [.ref p0, .ref r0, .int tm, .int v])), (r0, .inr (2, [.ref r1, .int (nI n)])), (r1, .inl (cy 0, 70, .inl f)), (p0, .inr (3, [.int (nI pB), .int (nI pS), .int (nI pG), .int (nI pE), .int (nI pC), .int (nI pO)]))] H := hP
    have hD : va_D A [(h0, .inr (4, [.ref p0, .ref r0, .int tm, .int v])), (r0, .inr (2, [.ref r1, .int (nI n)])), (r1, .inl (cy 0, 70, .inl f)), (p0, .inr (3, [.int (nI pB), .int (nI pS), .int (nI pG), .int (nI pE), .int (nI pC), .int (nI pO)]))] := hD
    obtain rfl := hw
    have hP9 := hP.sub (ws' := [(h0, .inr (4, [.ref p0, .ref r0, .int tm, .int v])), (p0, .inr (3, [.int (nI pB), .int (nI pS), .int (nI pG), .int (nI pE), .int (nI pC), .int (nI pO)])), (r0, .inr (2, [.ref r1, .int (nI n)])), (r1, .inl (cy 0, 70, .inl f))]) [0, 3, 1, 2] rfl
    have hD9 := hD.sub (ws' := [(h0, .inr (4, [.ref p0, .ref r0, .int tm, .int v])), (p0, .inr (3, [.int (nI pB), .int (nI pS), .int (nI pG), .int (nI pE), .int (nI pC), .int (nI pO)])), (r0, .inr (2, [.ref r1, .int (nI n)])), (r1, .inl (cy 0, 70, .inl f))]) [0, 3, 1, 2] (by decide) rfl
    exact W.iret (v := fst (fm (v - cbf) (nI pC))) hx hb hr (fun t ht hW => ⟨⟨fst (fm (v - cbf) (nI pC)), (), rfl, by unfold rc_fd; rw [if_neg c_12], by rw [ht]; exact hP9, hD9⟩, hS.F ht⟩) hS.2.2 dX3_findingOf_32
  · refine lv_iconst (v := 5) hx hb dX3_findingOf_15 (by decide) ?_
    refine lv_goto (tgt := 32) hx hb dX3_findingOf_16 (by decide) ?_
    have hP9 := hP.sub (ws' := [(h0, .inr (4, [.ref p0, .ref r0, .int tm, .int v])), (p0, .inr (3, [.int (nI pB), .int (nI pS), .int (nI pG), .int (nI pE), .int (nI pC), .int (nI pO)])), (r0, .inr (2, [.ref r1, .int (nI n)])), (r1, .inl (cy 0, 70, .inl f))]) [0, 1, 2, 3] rfl
    have hD9 := hD.sub (ws' := [(h0, .inr (4, [.ref p0, .ref r0, .int tm, .int v])), (p0, .inr (3, [.int (nI pB), .int (nI pS), .int (nI pG), .int (nI pE), .int (nI pC), .int (nI pO)])), (r0, .inr (2, [.ref r1, .int (nI n)])), (r1, .inl (cy 0, 70, .inl f))]) [0, 1, 2, 3] (by decide) rfl
    exact W.iret (v := 5) hx hb hr (fun t ht hW => ⟨⟨5, (), rfl, by unfold rc_fd; rw [if_pos c_12], by rw [ht]; exact hP9, hD9⟩, hS.F ht⟩) hS.2.2 dX3_findingOf_32

theorem iw_X3_isInError_X3 : ∀ w ∈ wsX30, w ∈ wsX3_isInError := by decide +kernel
theorem lk_X3_isInError_f12 : (.fieldLink RX3 12 "DataGuards$Receiver" "row" "LDataGuards$Octets;" : Cond) ∈ wsX3_isInError := by decide +kernel
theorem iw_X3_isInError_X1 : ∀ w ∈ wsX10, w ∈ wsX3_isInError := by decide +kernel
theorem lk_X3_isInError_f22 : (.fieldLink RX3 22 "DataGuards$Receiver" "profile" "LDataGuards$Profile;" : Cond) ∈ wsX3_isInError := by decide +kernel
theorem lk_X3_isInError_f30 : (.fieldLink RX3 30 "DataGuards$Receiver" "tooMany" "Z" : Cond) ∈ wsX3_isInError := by decide +kernel
theorem iw_X3_isInError_X2 : ∀ w ∈ wsX20, w ∈ wsX3_isInError := by decide +kernel
set_option maxHeartbeats 4000000 in
set_option maxRecDepth 100000 in
/-- Receiver.isInError(identity) -/
theorem c_X3_isInError (l : Launch) (D : va_G) (cy : Nat → ClassId) (sz : Nat) (h0 : Nat) (p0 : Nat) (r0 : Nat) (r1 : Nat) (tm : Int32) (cbf : Int32) (pB : Nat) (pS : Nat) (pG : Nat) (pE : Nat) (pC : Nat) (pO : Nat) (f : Nat → Int32) (n : Nat) (g : Nat → Nat) (d : Nat) (hn : n ≤ 70) (hg : oc_is f n g) (hpv : pvd pB pS pG pE pC pO) (hd : d < 65536) : Met l yX3_isInError wsX3_isInError ({ frames := 4, cells := 0, slots := 0, locals := 86 } : Room) (pre1 D cy [.ref h0, .int (nI d)] [(h0, .inr (4, [.ref p0, .ref r0, .int tm, .int cbf])), (p0, .inr (3, [.int (nI pB), .int (nI pS), .int (nI pG), .int (nI pE), .int (nI pC), .int (nI pO)])), (r0, .inr (2, [.ref r1, .int (nI n)])), (r1, .inl (cy 0, 70, .inl f))] sz) (va_Qi (fun (r : Int32) (u : Unit) => r = rc_err pB pS pG pE pC pO d n g tm) (fun u t => va_P D vwCl [(h0, .inr (4, [.ref p0, .ref r0, .int tm, .int cbf])), (p0, .inr (3, [.int (nI pB), .int (nI pS), .int (nI pG), .int (nI pE), .int (nI pC), .int (nI pO)])), (r0, .inr (2, [.ref r1, .int (nI n)])), (r1, .inl (cy 0, 70, .inl f))] t.heap ∧ va_D (va_A [(h0, .inr (4, [.ref p0, .ref r0, .int tm, .int cbf])), (p0, .inr (3, [.int (nI pB), .int (nI pS), .int (nI pG), .int (nI pE), .int (nI pC), .int (nI pO)])), (r0, .inr (2, [.ref r1, .int (nI n)])), (r1, .inl (cy 0, 70, .inl f))] sz) [(h0, .inr (4, [.ref p0, .ref r0, .int tm, .int cbf])), (p0, .inr (3, [.int (nI pB), .int (nI pS), .int (nI pG), .int (nI pE), .int (nI pC), .int (nI pO)])), (r0, .inr (2, [.ref r1, .int (nI n)])), (r1, .inl (cy 0, 70, .inl f))]) (va_A [(h0, .inr (4, [.ref p0, .ref r0, .int tm, .int cbf])), (p0, .inr (3, [.int (nI pB), .int (nI pS), .int (nI pG), .int (nI pE), .int (nI pC), .int (nI pO)])), (r0, .inr (2, [.ref r1, .int (nI n)])), (r1, .inl (cy 0, 70, .inl f))] sz)) 0 0 (va_A [(h0, .inr (4, [.ref p0, .ref r0, .int tm, .int cbf])), (p0, .inr (3, [.int (nI pB), .int (nI pS), .int (nI pG), .int (nI pE), .int (nI pC), .int (nI pO)])), (r0, .inr (2, [.ref r1, .int (nI n)])), (r1, .inl (cy 0, 70, .inl f))] sz) := by
  refine Met.ofW (cc := cX3_isInError) (maxL := 4) (ret := (some .boolean)) (by decide) rfl ?_
  intro p e s m args below meth c s₁ B hml hv
  obtain ⟨rfl, hsz, hP, hkk, hD0⟩ := hv
  have hx := B.exec
  have hb := B.bytes
  have hr := B.returns
  have hts := atoms_spec (ws := wsX3_isInError) B.pre
  have hown : s.vm.findClass RX3 = some m.cls := findClass_of_methodNamed B.named
  have hlocks := B.notSynchronized
  have hin : meth.name = _ := (name_of_methodNamed B.named B.method).1
  have hK := hkk.1
  subst hsz
  have hD := hD0.self (sz := s.heap.size)
  generalize hAe : va_A [(h0, .inr (4, [.ref p0, .ref r0, .int tm, .int cbf])), (p0, .inr (3, [.int (nI pB), .int (nI pS), .int (nI pG), .int (nI pE), .int (nI pC), .int (nI pO)])), (r0, .inr (2, [.ref r1, .int (nI n)])), (r1, .inl (cy 0, 70, .inl f))] s.heap.size = A at hD ⊢
  have hA : ∀ q : Nat, s.heap.size ≤ q → A q := fun q h => by rw [← hAe]; exact Or.inr h
  have hS : va_S A s.heap s.heap [] := va_S.rf
  have hP : va_P D vwCl [(h0, .inr (4, [.ref p0, .ref r0, .int tm, .int cbf])), (p0, .inr (3, [.int (nI pB), .int (nI pS), .int (nI pG), .int (nI pE), .int (nI pC), .int (nI pO)])), (r0, .inr (2, [.ref r1, .int (nI n)])), (r1, .inl (cy 0, 70, .inl f))] s.heap := hP
  have hl := lv_entry ([.ref h0, .int (nI d)]) (n := 4) (Nat.le_of_ble_eq_true rfl)
  rw [lg_entry_eq]
  generalize (lg_sl ([.ref h0, .int (nI d)]) ++ List.replicate (4 - (lg_sl ([.ref h0, .int (nI d)])).length) Slot.unset).toArray = ls at hl ⊢
  have hl : lv_has ls 4 [(0, .ref h0), (1, .int (nI d))] := hl
  have h8 := isB_8 hpv.1
  have hO2 := hpv.2.2.2.2.2.2
  have hC9 := hpv.2.2.2.2.2.1
  refine lv_aload_n hx hb dX3_isInError_0 rfl (lv_at hl 0 rfl) ?_
  refine va_get (D := D) (ci := 4) (v := .ref r0) (C := RX3) (T := TX3) (N := 4) hx hb hts iw_X3_isInError_X3 hown hK hP 0 rfl rfl 1 (by decide) (hts _ lk_X3_isInError_f12) (fun _ h9 => h9) rfl dX3_isInError_1 ?_
  refine va_getN (D := D) (ci := 2) (v := .int (nI n)) (C := RX1) (T := TX1) (N := 2) hx hb hts iw_X3_isInError_X1 hown hK hP 2 rfl rfl 1 (by decide) (nw_use 4 rfl rfl hkk.2) (fun _ h9 => h9) rfl dX3_isInError_4 ?_
  refine lv_aload_n hx hb dX3_isInError_7 rfl (lv_at hl 0 rfl) ?_
  refine va_get (D := D) (ci := 4) (v := .ref p0) (C := RX3) (T := TX3) (N := 4) hx hb hts iw_X3_isInError_X3 hown hK hP 0 rfl rfl 0 (by decide) (hts _ lk_X3_isInError_f22) (fun _ h9 => h9) rfl dX3_isInError_8 ?_
  have hPc := hP.sub (ws' := [(p0, .inr (3, [.int (nI pB), .int (nI pS), .int (nI pG), .int (nI pE), .int (nI pC), .int (nI pO)]))]) [1] rfl
  have hDc := hD.sub (ws' := [(p0, .inr (3, [.int (nI pB), .int (nI pS), .int (nI pG), .int (nI pE), .int (nI pC), .int (nI pO)]))]) [1] (by decide) rfl
  have hFc := va_free (wc := [(p0, .inr (3, [.int (nI pB), .int (nI pS), .int (nI pG), .int (nI pE), .int (nI pC), .int (nI pO)]))]) hD hS hA [1] rfl
  refine va_calli (va_runV (As := []) (rest := [.int (nI n)]) ⟨hx, hb, hml, hown, hts⟩ (c_X2_checkOctets l D cy s.heap.size p0 pB pS pG pE pC pO hpv.1) (cwV 0 hts gX3_isInError_X2_checkOctets rfl rfl rfl (by decide +kernel) ⟨Nat.le_of_ble_eq_true rfl, Nat.le_of_ble_eq_true rfl⟩) (pv_V (ci := 3) (q := (RX2, TX2, 6)) hkk hPc hDc rfl rfl rfl) rfl rfl hl.1 rfl (lv_room (Nat.le_of_ble_eq_true rfl)) dX3_isInError_11 ⟨Nat.le_of_ble_eq_true rfl, Nat.le_of_ble_eq_true rfl⟩) hS (fun q _ h => hFc q h) hFc (fun r_11 u t H1 locs ht hvm hw hB hz1 hk1 hS => ?_)
  obtain ⟨hP1, hD1⟩ := hB
  rw [ht] at hP1
  try dsimp only at hw hP1 hD1
  obtain ⟨hP, hD⟩ := va_join (wr := [(h0, .inr (4, [.ref p0, .ref r0, .int tm, .int cbf])), (r0, .inr (2, [.ref r1, .int (nI n)])), (r1, .inl (cy 0, 70, .inl f))]) (w1 := [(p0, .inr (3, [.int (nI pB), .int (nI pS), .int (nI pG), .int (nI pE), .int (nI pC), .int (nI pO)]))]) hP hD [1] [0, 2, 3] rfl rfl (by decide) (by decide) hk1 hFc hP1 hD1
  clear hPc hDc hFc hP1 hD1 hz1 hk1
  generalize H1 = H at hP hS ⊢
  have hP : va_P D vwCl [(h0, .inr (4, [.ref p0, .ref r0, .int tm, .int cbf])), (r0, .inr (2, [.ref r1, .int (nI n)])), (r1, .inl (cy 0, 70, .inl f)), (p0, .inr (3, [.int (nI pB), .int (nI pS), .int (nI pG), .int (nI pE), .int (nI pC), .int (nI pO)]))] H := hP
  have hD : va_D A [(h0, .inr (4, [.ref p0, .ref r0, .int tm, .int cbf])), (r0, .inr (2, [.ref r1, .int (nI n)])), (r1, .inl (cy 0, 70, .inl f)), (p0, .inr (3, [.int (nI pB), .int (nI pS), .int (nI pG), .int (nI pE), .int (nI pC), .int (nI pO)]))] := hD
  obtain rfl := hw
  refine lv_isub hx hb dX3_isInError_14 ?_
  refine lv_istore_n (lv' := [(2, .int ((nI n) - (nI (pB / 8)))), (0, .ref h0), (1, .int (nI d))]) hx hb dX3_isInError_15 rfl hl (by decide) rfl (fun ls hl => ?_)
  refine lv_aload_n hx hb dX3_isInError_16 rfl (lv_at hl 1 rfl) ?_
  refine va_get (D := D) (ci := 4) (v := .int tm) (C := RX3) (T := TX3) (N := 4) hx hb hts iw_X3_isInError_X3 hown hK hP 0 rfl rfl 2 (by decide) (hts _ lk_X3_isInError_f30) (fun _ h9 => h9) rfl dX3_isInError_17 ?_
  refine lv_if_ne (tgt := 34) hx hb dX3_isInError_20 (by decide) (fun c_20 => ?_) (fun c_20 => ?_)
  · refine lv_iconst (v := 1) hx hb dX3_isInError_34 (by decide) ?_
    have hP9 := hP.sub (ws' := [(h0, .inr (4, [.ref p0, .ref r0, .int tm, .int cbf])), (p0, .inr (3, [.int (nI pB), .int (nI pS), .int (nI pG), .int (nI pE), .int (nI pC), .int (nI pO)])), (r0, .inr (2, [.ref r1, .int (nI n)])), (r1, .inl (cy 0, 70, .inl f))]) [0, 3, 1, 2] rfl
    have hD9 := hD.sub (ws' := [(h0, .inr (4, [.ref p0, .ref r0, .int tm, .int cbf])), (p0, .inr (3, [.int (nI pB), .int (nI pS), .int (nI pG), .int (nI pE), .int (nI pC), .int (nI pO)])), (r0, .inr (2, [.ref r1, .int (nI n)])), (r1, .inl (cy 0, 70, .inl f))]) [0, 3, 1, 2] (by decide) rfl
    exact W.zret (v := 1) hx hb hr rfl (fun t ht hW => ⟨⟨1, (), rfl, by unfold rc_err; rw [if_pos (Or.inl c_20)], by rw [ht]; exact hP9, hD9⟩, hS.F ht⟩) hS.2.2 dX3_isInError_35
  · refine lv_iload_n hx hb dX3_isInError_23 rfl (lv_at hl 0 rfl) ?_
    refine lv_aload_n hx hb dX3_isInError_24 rfl (lv_at hl 1 rfl) ?_
    refine va_get (D := D) (ci := 4) (v := .ref p0) (C := RX3) (T := TX3) (N := 4) hx hb hts iw_X3_isInError_X3 hown hK hP 0 rfl rfl 0 (by decide) (hts _ lk_X3_isInError_f22) (fun _ h9 => h9) rfl dX3_isInError_25 ?_
    refine va_getN (D := D) (ci := 3) (v := .int (nI pO)) (C := RX2) (T := TX2) (N := 6) hx hb hts iw_X3_isInError_X2 hown hK hP 3 rfl rfl 5 (by decide) (nw_use 1 rfl rfl hkk.2) (fun _ h9 => h9) rfl dX3_isInError_28 ?_
    refine lv_icmp_ge (tgt := 36) hx hb dX3_isInError_31 (by decide) (fun c_31 => ?_) (fun c_31 => ?_)
    · have h36 : pB / 8 + pO ≤ n := (rc_cmp hn h8.2.1 hO2.2).mp c_31
      rw [pk_sub (by omega)] at hl
      refine lv_aload_n hx hb dX3_isInError_36 rfl (lv_at hl 1 rfl) ?_
      refine va_get (D := D) (ci := 4) (v := .ref r0) (C := RX3) (T := TX3) (N := 4) hx hb hts iw_X3_isInError_X3 hown hK hP 0 rfl rfl 1 (by decide) (hts _ lk_X3_isInError_f12) (fun _ h9 => h9) rfl dX3_isInError_37 ?_
      refine lv_iload_n hx hb dX3_isInError_40 rfl (lv_at hl 0 rfl) ?_
      refine lv_aload_n hx hb dX3_isInError_41 rfl (lv_at hl 1 rfl) ?_
      refine va_get (D := D) (ci := 4) (v := .ref p0) (C := RX3) (T := TX3) (N := 4) hx hb hts iw_X3_isInError_X3 hown hK hP 0 rfl rfl 0 (by decide) (hts _ lk_X3_isInError_f22) (fun _ h9 => h9) rfl dX3_isInError_42 ?_
      have hPc := hP.sub (ws' := [(p0, .inr (3, [.int (nI pB), .int (nI pS), .int (nI pG), .int (nI pE), .int (nI pC), .int (nI pO)]))]) [3] rfl
      have hDc := hD.sub (ws' := [(p0, .inr (3, [.int (nI pB), .int (nI pS), .int (nI pG), .int (nI pE), .int (nI pC), .int (nI pO)]))]) [3] (by decide) rfl
      have hFc := va_free (wc := [(p0, .inr (3, [.int (nI pB), .int (nI pS), .int (nI pG), .int (nI pE), .int (nI pC), .int (nI pO)]))]) hD hS hA [3] rfl
      refine va_calli (va_runV (As := []) (rest := [.int (nI (n - pB / 8)), .ref r0]) ⟨hx, hb, hml, hown, hts⟩ (c_X2_checkOctets l D cy H.size p0 pB pS pG pE pC pO hpv.1) (cwV 0 hts gX3_isInError_X2_checkOctets rfl rfl rfl (by decide +kernel) ⟨Nat.le_of_ble_eq_true rfl, Nat.le_of_ble_eq_true rfl⟩) (pv_V (ci := 3) (q := (RX2, TX2, 6)) hkk hPc hDc rfl rfl rfl) rfl rfl hl.1 rfl (lv_room (Nat.le_of_ble_eq_true rfl)) dX3_isInError_45 ⟨Nat.le_of_ble_eq_true rfl, Nat.le_of_ble_eq_true rfl⟩) hS (fun q _ h => hFc q h) hFc (fun r_45 u t H1 locs ht hvm hw hB hz1 hk1 hS => ?_)
      obtain ⟨hP1, hD1⟩ := hB
      rw [ht] at hP1
      try dsimp only at hw hP1 hD1
      obtain ⟨hP, hD⟩ := va_join (wr := [(h0, .inr (4, [.ref p0, .ref r0, .int tm, .int cbf])), (r0, .inr (2, [.ref r1, .int (nI n)])), (r1, .inl (cy 0, 70, .inl f))]) (w1 := [(p0, .inr (3, [.int (nI pB), .int (nI pS), .int (nI pG), .int (nI pE), .int (nI pC), .int (nI pO)]))]) hP hD [3] [0, 1, 2] rfl rfl (by decide) (by decide) hk1 hFc hP1 hD1
      clear hPc hDc hFc hP1 hD1 hz1 hk1
      generalize H1 = H at hP hS ⊢
      have hP : va_P D vwCl [(h0, .inr (4, [.ref p0, .ref r0, .int tm, .int cbf])), (r0, .inr (2, [.ref r1, .int (nI n)])), (r1, .inl (cy 0, 70, .inl f)), (p0, .inr (3, [.int (nI pB), .int (nI pS), .int (nI pG), .int (nI pE), .int (nI pC), .int (nI pO)]))] H := hP
      have hD : va_D A [(h0, .inr (4, [.ref p0, .ref r0, .int tm, .int cbf])), (r0, .inr (2, [.ref r1, .int (nI n)])), (r1, .inl (cy 0, 70, .inl f)), (p0, .inr (3, [.int (nI pB), .int (nI pS), .int (nI pG), .int (nI pE), .int (nI pC), .int (nI pO)]))] := hD
      obtain rfl := hw
      have hPc := hP.sub (ws' := [(r0, .inr (2, [.ref r1, .int (nI n)])), (r1, .inl (cy 0, 70, .inl f))]) [1, 2] rfl
      have hDc := hD.sub (ws' := [(r0, .inr (2, [.ref r1, .int (nI n)])), (r1, .inl (cy 0, 70, .inl f))]) [1, 2] (by decide) rfl
      have hFc := va_free (wc := [(r0, .inr (2, [.ref r1, .int (nI n)])), (r1, .inl (cy 0, 70, .inl f))]) hD hS hA [1, 2] rfl
      refine va_calli (va_runV (As := [.int (nI (n - pB / 8)), .int (nI (pB / 8))]) (rest := []) ⟨hx, hb, hml, hown, hts⟩ (c_X1_numberAt l D cy H.size r0 r1 f n (nI (n - pB / 8)) (pB / 8) (by first | assumption | omega) (by omega)) (cwV 2 hts gX3_isInError_X1_numberAt rfl rfl rfl (by decide +kernel) ⟨Nat.le_of_ble_eq_true rfl, Nat.le_of_ble_eq_true rfl⟩) (pv_V (ci := 2) (q := (RX1, TX1, 2)) hkk hPc hDc rfl rfl rfl) rfl rfl hl.1 rfl (lv_room (Nat.le_of_ble_eq_true rfl)) dX3_isInError_48 ⟨Nat.le_of_ble_eq_true rfl, Nat.le_of_ble_eq_true rfl⟩) hS (fun q _ h => hFc q h) hFc (fun r_48 u t H1 locs ht hvm hw hB hz1 hk1 hS => ?_)
      obtain ⟨hP1, hD1⟩ := hB
      rw [ht] at hP1
      try dsimp only at hw hP1 hD1
      obtain ⟨hP, hD⟩ := va_join (wr := [(h0, .inr (4, [.ref p0, .ref r0, .int tm, .int cbf])), (p0, .inr (3, [.int (nI pB), .int (nI pS), .int (nI pG), .int (nI pE), .int (nI pC), .int (nI pO)]))]) (w1 := [(r0, .inr (2, [.ref r1, .int (nI n)])), (r1, .inl (cy 0, 70, .inl f))]) hP hD [1, 2] [0, 3] rfl rfl (by decide) (by decide) hk1 hFc hP1 hD1
      clear hPc hDc hFc hP1 hD1 hz1 hk1
      generalize H1 = H at hP hS ⊢
      have hP : va_P D vwCl [(h0, .inr (4, [.ref p0, .ref r0, .int tm, .int cbf])), (p0, .inr (3, [.int (nI pB), .int (nI pS), .int (nI pG), .int (nI pE), .int (nI pC), .int (nI pO)])), (r0, .inr (2, [.ref r1, .int (nI n)])), (r1, .inl (cy 0, 70, .inl f))] H := hP
      have hD : va_D A [(h0, .inr (4, [.ref p0, .ref r0, .int tm, .int cbf])), (p0, .inr (3, [.int (nI pB), .int (nI pS), .int (nI pG), .int (nI pE), .int (nI pC), .int (nI pO)])), (r0, .inr (2, [.ref r1, .int (nI n)])), (r1, .inl (cy 0, 70, .inl f))] := hD
      obtain rfl := hw
      refine lv_topi (fun x_48 ex_48 => ?_)
      obtain rfl : x_48 = nI (be g (n - pB / 8) (pB / 8)) := by rw [ex_48]; exact oc_num_be hg hn _ h8.2.1 (by omega)
      refine lv_istore_n (lv' := [(3, .int (nI (be g (n - pB / 8) (pB / 8)))), (2, .int (nI (n - pB / 8))), (0, .ref h0), (1, .int (nI d))]) hx hb dX3_isInError_51 rfl hl (by decide) rfl (fun ls hl => ?_)
      refine lv_iload_n hx hb dX3_isInError_52 rfl (lv_at hl 0 rfl) ?_
      refine lv_aload_n hx hb dX3_isInError_53 rfl (lv_at hl 2 rfl) ?_
      refine va_get (D := D) (ci := 4) (v := .ref p0) (C := RX3) (T := TX3) (N := 4) hx hb hts iw_X3_isInError_X3 hown hK hP 0 rfl rfl 0 (by decide) (hts _ lk_X3_isInError_f22) (fun _ h9 => h9) rfl dX3_isInError_54 ?_
      refine lv_iload_n hx hb dX3_isInError_57 rfl (lv_at hl 3 rfl) ?_
      refine lv_aload_n hx hb dX3_isInError_58 rfl (lv_at hl 2 rfl) ?_
      refine va_get (D := D) (ci := 4) (v := .ref r0) (C := RX3) (T := TX3) (N := 4) hx hb hts iw_X3_isInError_X3 hown hK hP 0 rfl rfl 1 (by decide) (hts _ lk_X3_isInError_f12) (fun _ h9 => h9) rfl dX3_isInError_59 ?_
      refine lv_iload_n hx hb dX3_isInError_62 rfl (lv_at hl 1 rfl) ?_
      have hPc := hP.sub (ws' := [(p0, .inr (3, [.int (nI pB), .int (nI pS), .int (nI pG), .int (nI pE), .int (nI pC), .int (nI pO)])), (r0, .inr (2, [.ref r1, .int (nI n)])), (r1, .inl (cy 0, 70, .inl f))]) [1, 2, 3] rfl
      have hDc := hD.sub (ws' := [(p0, .inr (3, [.int (nI pB), .int (nI pS), .int (nI pG), .int (nI pE), .int (nI pC), .int (nI pO)])), (r0, .inr (2, [.ref r1, .int (nI n)])), (r1, .inl (cy 0, 70, .inl f))]) [1, 2, 3] (by decide) rfl
      have hFc := va_free (wc := [(p0, .inr (3, [.int (nI pB), .int (nI pS), .int (nI pG), .int (nI pE), .int (nI pC), .int (nI pO)])), (r0, .inr (2, [.ref r1, .int (nI n)])), (r1, .inl (cy 0, 70, .inl f))]) hD hS hA [1, 2, 3] rfl
      refine va_calli (va_runV (As := [.int (nI d), .ref r0, .int (nI (n - pB / 8))]) (rest := [.int (nI (be g (n - pB / 8) (pB / 8)))]) ⟨hx, hb, hml, hown, hts⟩ (c_X2_checkOver l D cy H.size p0 pB pS pG pE pC pO r0 r1 f n g d (n - pB / 8) hpv.1 hpv.2.2.1 hpv.2.1 (by first | assumption | omega) (by first | assumption | omega) (Nat.sub_le _ _) (by first | assumption | omega)) (cwV 3 hts gX3_isInError_X2_checkOver rfl rfl rfl (by decide +kernel) ⟨Nat.le_of_ble_eq_true rfl, Nat.le_of_ble_eq_true rfl⟩) (pv_V (ci := 3) (q := (RX2, TX2, 6)) hkk hPc hDc rfl rfl rfl) rfl rfl hl.1 rfl (lv_room (Nat.le_of_ble_eq_true rfl)) dX3_isInError_63 ⟨Nat.le_of_ble_eq_true rfl, Nat.le_of_ble_eq_true rfl⟩) hS (fun q _ h => hFc q h) hFc (fun r_63 u t H1 locs ht hvm hw hB hz1 hk1 hS => ?_)
      obtain ⟨hP1, hD1⟩ := hB
      rw [ht] at hP1
      try dsimp only at hw hP1 hD1
      obtain ⟨hP, hD⟩ := va_join (wr := [(h0, .inr (4, [.ref p0, .ref r0, .int tm, .int cbf]))]) (w1 := [(p0, .inr (3, [.int (nI pB), .int (nI pS), .int (nI pG), .int (nI pE), .int (nI pC), .int (nI pO)])), (r0, .inr (2, [.ref r1, .int (nI n)])), (r1, .inl (cy 0, 70, .inl f))]) hP hD [1, 2, 3] [0] rfl rfl (by decide) (by decide) hk1 hFc hP1 hD1
      clear hPc hDc hFc hP1 hD1 hz1 hk1
      generalize H1 = H at hP hS ⊢
      have hP : va_P D vwCl [(h0, .inr (4, [.ref p0, .ref r0, .int tm, .int cbf])), (p0, .inr (3, [.int (nI pB), .int (nI pS), .int (nI pG), .int (nI pE), .int (nI pC), .int (nI pO)])), (r0, .inr (2, [.ref r1, .int (nI n)])), (r1, .inl (cy 0, 70, .inl f))] H := hP
      have hD : va_D A [(h0, .inr (4, [.ref p0, .ref r0, .int tm, .int cbf])), (p0, .inr (3, [.int (nI pB), .int (nI pS), .int (nI pG), .int (nI pE), .int (nI pC), .int (nI pO)])), (r0, .inr (2, [.ref r1, .int (nI n)])), (r1, .inl (cy 0, 70, .inl f))] := hD
      obtain rfl := hw
      refine lv_icmp_ne (tgt := 83) hx hb dX3_isInError_66 (by decide) (fun c_66 => ?_) (fun c_66 => ?_)
      · refine lv_iconst (v := 1) hx hb dX3_isInError_83 (by decide) ?_
        refine lv_goto (tgt := 88) hx hb dX3_isInError_84 (by decide) ?_
        have hP9 := hP.sub (ws' := [(h0, .inr (4, [.ref p0, .ref r0, .int tm, .int cbf])), (p0, .inr (3, [.int (nI pB), .int (nI pS), .int (nI pG), .int (nI pE), .int (nI pC), .int (nI pO)])), (r0, .inr (2, [.ref r1, .int (nI n)])), (r1, .inl (cy 0, 70, .inl f))]) [0, 1, 2, 3] rfl
        have hD9 := hD.sub (ws' := [(h0, .inr (4, [.ref p0, .ref r0, .int tm, .int cbf])), (p0, .inr (3, [.int (nI pB), .int (nI pS), .int (nI pG), .int (nI pE), .int (nI pC), .int (nI pO)])), (r0, .inr (2, [.ref r1, .int (nI n)])), (r1, .inl (cy 0, 70, .inl f))]) [0, 1, 2, 3] (by decide) rfl
        exact W.zret (v := 1) hx hb hr rfl (fun t ht hW => ⟨⟨1, (), rfl, by unfold rc_err; rw [if_pos (Or.inr (Or.inr (Or.inl fun q => c_66 (congrArg nI q))))], by rw [ht]; exact hP9, hD9⟩, hS.F ht⟩) hS.2.2 dX3_isInError_88
      · have hbe : be g (n - pB / 8) (pB / 8) < 2 ^ 32 := isB_32 hpv.1 (h8.2.2 ▸ be_lt (fun j hj => (hg _ (by omega)).2))
        have hck : ck pB pS pG pE d g (n - pB / 8) < 2 ^ 32 := isB_32 hpv.1 (ck_lt hpv.2.1 hpv.2.2.1 hpv.2.2.2.1)
        have hbe0 : be g 0 pO < 2 ^ 31 := Nat.lt_of_lt_of_le (be_lt (fun j hj => (hg _ (by omega)).2)) (Nat.le_trans (Nat.pow_le_pow_right (by decide) hO2.2) (by decide))
        refine lv_aload_n hx hb dX3_isInError_69 rfl (lv_at hl 2 rfl) ?_
        have hPc := hP.sub (ws' := [(h0, .inr (4, [.ref p0, .ref r0, .int tm, .int cbf])), (p0, .inr (3, [.int (nI pB), .int (nI pS), .int (nI pG), .int (nI pE), .int (nI pC), .int (nI pO)])), (r0, .inr (2, [.ref r1, .int (nI n)])), (r1, .inl (cy 0, 70, .inl f))]) [0, 1, 2, 3] rfl
        have hDc := hD.sub (ws' := [(h0, .inr (4, [.ref p0, .ref r0, .int tm, .int cbf])), (p0, .inr (3, [.int (nI pB), .int (nI pS), .int (nI pG), .int (nI pE), .int (nI pC), .int (nI pO)])), (r0, .inr (2, [.ref r1, .int (nI n)])), (r1, .inl (cy 0, 70, .inl f))]) [0, 1, 2, 3] (by decide) rfl
        have hFc := va_free (wc := [(h0, .inr (4, [.ref p0, .ref r0, .int tm, .int cbf])), (p0, .inr (3, [.int (nI pB), .int (nI pS), .int (nI pG), .int (nI pE), .int (nI pC), .int (nI pO)])), (r0, .inr (2, [.ref r1, .int (nI n)])), (r1, .inl (cy 0, 70, .inl f))]) hD hS hA [0, 1, 2, 3] rfl
        refine va_calli (va_runV (As := []) (rest := []) ⟨hx, hb, hml, hown, hts⟩ (c_X3_rowCounter l D cy H.size h0 p0 r0 r1 tm cbf pB pS pG pE pC pO f n g (by first | assumption | omega) (by first | assumption | omega) (by first | assumption | omega) (by omega)) (cwV 0 hts gX3_isInError_X3_rowCounter rfl rfl rfl (by decide +kernel) ⟨Nat.le_of_ble_eq_true rfl, Nat.le_of_ble_eq_true rfl⟩) (pv_V (ci := 4) (q := (RX3, TX3, 4)) hkk hPc hDc rfl rfl rfl) rfl rfl hl.1 rfl (lv_room (Nat.le_of_ble_eq_true rfl)) dX3_isInError_70 ⟨Nat.le_of_ble_eq_true rfl, Nat.le_of_ble_eq_true rfl⟩) hS (fun q _ h => hFc q h) hFc (fun r_70 u t H1 locs ht hvm hw hB hz1 hk1 hS => ?_)
        obtain ⟨hP1, hD1⟩ := hB
        rw [ht] at hP1
        try dsimp only at hw hP1 hD1
        obtain ⟨hP, hD⟩ := va_join (wr := []) (w1 := [(h0, .inr (4, [.ref p0, .ref r0, .int tm, .int cbf])), (p0, .inr (3, [.int (nI pB), .int (nI pS), .int (nI pG), .int (nI pE), .int (nI pC), .int (nI pO)])), (r0, .inr (2, [.ref r1, .int (nI n)])), (r1, .inl (cy 0, 70, .inl f))]) hP hD [0, 1, 2, 3] [] rfl rfl (by decide) (by decide) hk1 hFc hP1 hD1
        clear hPc hDc hFc hP1 hD1 hz1 hk1
        generalize H1 = H at hP hS ⊢
        have hP : va_P D vwCl [(h0, .inr (4, [.ref p0, .ref r0, .int tm, .int cbf])), (p0, .inr (3, [.int (nI pB), .int (nI pS), .int (nI pG), .int (nI pE), .int (nI pC), .int (nI pO)])), (r0, .inr (2, [.ref r1, .int (nI n)])), (r1, .inl (cy 0, 70, .inl f))] H := hP
        have hD : va_D A [(h0, .inr (4, [.ref p0, .ref r0, .int tm, .int cbf])), (p0, .inr (3, [.int (nI pB), .int (nI pS), .int (nI pG), .int (nI pE), .int (nI pC), .int (nI pO)])), (r0, .inr (2, [.ref r1, .int (nI n)])), (r1, .inl (cy 0, 70, .inl f))] := hD
        obtain rfl := hw
        refine lv_aload_n hx hb dX3_isInError_73 rfl (lv_at hl 2 rfl) ?_
        refine va_get (D := D) (ci := 4) (v := .ref p0) (C := RX3) (T := TX3) (N := 4) hx hb hts iw_X3_isInError_X3 hown hK hP 0 rfl rfl 0 (by decide) (hts _ lk_X3_isInError_f22) (fun _ h9 => h9) rfl dX3_isInError_74 ?_
        refine va_getN (D := D) (ci := 3) (v := .int (nI pC)) (C := RX2) (T := TX2) (N := 6) hx hb hts iw_X3_isInError_X2 hown hK hP 1 rfl rfl 4 (by decide) (nw_use 0 rfl rfl hkk.2) (fun _ h9 => h9) rfl dX3_isInError_77 ?_
        refine lv_icmp_lt (tgt := 87) hx hb dX3_isInError_80 (by decide) (fun c_80 => ?_) (fun c_80 => ?_)
        · refine lv_iconst (v := 0) hx hb dX3_isInError_87 (by decide) ?_
          have hP9 := hP.sub (ws' := [(h0, .inr (4, [.ref p0, .ref r0, .int tm, .int cbf])), (p0, .inr (3, [.int (nI pB), .int (nI pS), .int (nI pG), .int (nI pE), .int (nI pC), .int (nI pO)])), (r0, .inr (2, [.ref r1, .int (nI n)])), (r1, .inl (cy 0, 70, .inl f))]) [0, 1, 2, 3] rfl
          have hD9 := hD.sub (ws' := [(h0, .inr (4, [.ref p0, .ref r0, .int tm, .int cbf])), (p0, .inr (3, [.int (nI pB), .int (nI pS), .int (nI pG), .int (nI pE), .int (nI pC), .int (nI pO)])), (r0, .inr (2, [.ref r1, .int (nI n)])), (r1, .inl (cy 0, 70, .inl f))]) [0, 1, 2, 3] (by decide) rfl
          exact W.zret (v := 0) hx hb hr rfl (fun t ht hW => ⟨⟨0, (), rfl, by unfold rc_err; rw [if_neg (fun q => q.elim (fun a => a c_20) (fun q => q.elim (fun a => absurd h36 (Nat.not_le.mpr a)) (fun q => q.elim (fun a => a (nI_inj32 hbe hck c_66)) (fun a => absurd ((nI_ltI hbe0 (by omega)).mp c_80) (Nat.not_lt.mpr a)))))], by rw [ht]; exact hP9, hD9⟩, hS.F ht⟩) hS.2.2 dX3_isInError_88
        · refine lv_iconst (v := 1) hx hb dX3_isInError_83 (by decide) ?_
          refine lv_goto (tgt := 88) hx hb dX3_isInError_84 (by decide) ?_
          have hP9 := hP.sub (ws' := [(h0, .inr (4, [.ref p0, .ref r0, .int tm, .int cbf])), (p0, .inr (3, [.int (nI pB), .int (nI pS), .int (nI pG), .int (nI pE), .int (nI pC), .int (nI pO)])), (r0, .inr (2, [.ref r1, .int (nI n)])), (r1, .inl (cy 0, 70, .inl f))]) [0, 1, 2, 3] rfl
          have hD9 := hD.sub (ws' := [(h0, .inr (4, [.ref p0, .ref r0, .int tm, .int cbf])), (p0, .inr (3, [.int (nI pB), .int (nI pS), .int (nI pG), .int (nI pE), .int (nI pC), .int (nI pO)])), (r0, .inr (2, [.ref r1, .int (nI n)])), (r1, .inl (cy 0, 70, .inl f))]) [0, 1, 2, 3] (by decide) rfl
          exact W.zret (v := 1) hx hb hr rfl (fun t ht hW => ⟨⟨1, (), rfl, by unfold rc_err; rw [if_pos (Or.inr (Or.inr (Or.inr (Nat.not_lt.mp fun q => c_80 (nI_lt q (by omega))))))], by rw [ht]; exact hP9, hD9⟩, hS.F ht⟩) hS.2.2 dX3_isInError_88
    · refine lv_iconst (v := 1) hx hb dX3_isInError_34 (by decide) ?_
      have hP9 := hP.sub (ws' := [(h0, .inr (4, [.ref p0, .ref r0, .int tm, .int cbf])), (p0, .inr (3, [.int (nI pB), .int (nI pS), .int (nI pG), .int (nI pE), .int (nI pC), .int (nI pO)])), (r0, .inr (2, [.ref r1, .int (nI n)])), (r1, .inl (cy 0, 70, .inl f))]) [0, 3, 1, 2] rfl
      have hD9 := hD.sub (ws' := [(h0, .inr (4, [.ref p0, .ref r0, .int tm, .int cbf])), (p0, .inr (3, [.int (nI pB), .int (nI pS), .int (nI pG), .int (nI pE), .int (nI pC), .int (nI pO)])), (r0, .inr (2, [.ref r1, .int (nI n)])), (r1, .inl (cy 0, 70, .inl f))]) [0, 3, 1, 2] (by decide) rfl
      exact W.zret (v := 1) hx hb hr rfl (fun t ht hW => ⟨⟨1, (), rfl, by unfold rc_err; rw [if_pos (Or.inr (Or.inl (Nat.not_le.mp fun q => c_31 ((rc_cmp hn h8.2.1 hO2.2).mpr q))))], by rw [ht]; exact hP9, hD9⟩, hS.F ht⟩) hS.2.2 dX3_isInError_35

theorem iw_X3_endRow_X3 : ∀ w ∈ wsX30, w ∈ wsX3_endRow := by decide +kernel
theorem lk_X3_endRow_f12 : (.fieldLink RX3 12 "DataGuards$Receiver" "row" "LDataGuards$Octets;" : Cond) ∈ wsX3_endRow := by decide +kernel
theorem lk_X3_endRow_f30 : (.fieldLink RX3 30 "DataGuards$Receiver" "tooMany" "Z" : Cond) ∈ wsX3_endRow := by decide +kernel
set_option maxHeartbeats 4000000 in
set_option maxRecDepth 100000 in
/-- Receiver.endRow(identity) -/
theorem c_X3_endRow (l : Launch) (D : va_G) (cy : Nat → ClassId) (sz : Nat) (h0 : Nat) (p0 : Nat) (r0 : Nat) (r1 : Nat) (tm : Int32) (cbf : Int32) (pB : Nat) (pS : Nat) (pG : Nat) (pE : Nat) (pC : Nat) (pO : Nat) (f : Nat → Int32) (n : Nat) (g : Nat → Nat) (d : Nat) (hn : n ≤ 70) (hg : oc_is f n g) (hpv : pvd pB pS pG pE pC pO) (hd : d < 65536) : Met l yX3_endRow wsX3_endRow ({ frames := 5, cells := 0, slots := 0, locals := 109 } : Room) (pre1 D cy [.ref h0, .int (nI d)] [(h0, .inr (4, [.ref p0, .ref r0, .int tm, .int cbf])), (p0, .inr (3, [.int (nI pB), .int (nI pS), .int (nI pG), .int (nI pE), .int (nI pC), .int (nI pO)])), (r0, .inr (2, [.ref r1, .int (nI n)])), (r1, .inl (cy 0, 70, .inl f))] sz) (va_Qi (fun (r : Int32) (u : Unit) => r = if rc_err pB pS pG pE pC pO d n g tm = 0 then rc_fd cbf (nI (be g 0 pO)) pC else 4) (fun u t => va_P D vwCl [(h0, .inr (4, [.ref p0, .ref r0, .int 0, .int (if rc_err pB pS pG pE pC pO d n g tm = 0 then nI (be g 0 pO) else cbf)])), (p0, .inr (3, [.int (nI pB), .int (nI pS), .int (nI pG), .int (nI pE), .int (nI pC), .int (nI pO)])), (r0, .inr (2, [.ref r1, .int (nI 0)])), (r1, .inl (cy 0, 70, .inl f))] t.heap ∧ va_D (va_A [(h0, .inr (4, [.ref p0, .ref r0, .int tm, .int cbf])), (p0, .inr (3, [.int (nI pB), .int (nI pS), .int (nI pG), .int (nI pE), .int (nI pC), .int (nI pO)])), (r0, .inr (2, [.ref r1, .int (nI n)])), (r1, .inl (cy 0, 70, .inl f))] sz) [(h0, .inr (4, [.ref p0, .ref r0, .int 0, .int (if rc_err pB pS pG pE pC pO d n g tm = 0 then nI (be g 0 pO) else cbf)])), (p0, .inr (3, [.int (nI pB), .int (nI pS), .int (nI pG), .int (nI pE), .int (nI pC), .int (nI pO)])), (r0, .inr (2, [.ref r1, .int (nI 0)])), (r1, .inl (cy 0, 70, .inl f))]) (va_A [(h0, .inr (4, [.ref p0, .ref r0, .int tm, .int cbf])), (p0, .inr (3, [.int (nI pB), .int (nI pS), .int (nI pG), .int (nI pE), .int (nI pC), .int (nI pO)])), (r0, .inr (2, [.ref r1, .int (nI n)])), (r1, .inl (cy 0, 70, .inl f))] sz)) 0 0 (va_A [(h0, .inr (4, [.ref p0, .ref r0, .int tm, .int cbf])), (p0, .inr (3, [.int (nI pB), .int (nI pS), .int (nI pG), .int (nI pE), .int (nI pC), .int (nI pO)])), (r0, .inr (2, [.ref r1, .int (nI n)])), (r1, .inl (cy 0, 70, .inl f))] sz) := by
  refine Met.ofW (cc := cX3_endRow) (maxL := 3) (ret := (some .int)) (by decide) rfl ?_
  intro p e s m args below meth c s₁ B hml hv
  obtain ⟨rfl, hsz, hP, hkk, hD0⟩ := hv
  have hx := B.exec
  have hb := B.bytes
  have hr := B.returns
  have hts := atoms_spec (ws := wsX3_endRow) B.pre
  have hown : s.vm.findClass RX3 = some m.cls := findClass_of_methodNamed B.named
  have hlocks := B.notSynchronized
  have hin : meth.name = _ := (name_of_methodNamed B.named B.method).1
  have hK := hkk.1
  subst hsz
  have hD := hD0.self (sz := s.heap.size)
  generalize hAe : va_A [(h0, .inr (4, [.ref p0, .ref r0, .int tm, .int cbf])), (p0, .inr (3, [.int (nI pB), .int (nI pS), .int (nI pG), .int (nI pE), .int (nI pC), .int (nI pO)])), (r0, .inr (2, [.ref r1, .int (nI n)])), (r1, .inl (cy 0, 70, .inl f))] s.heap.size = A at hD ⊢
  have hA : ∀ q : Nat, s.heap.size ≤ q → A q := fun q h => by rw [← hAe]; exact Or.inr h
  have hS : va_S A s.heap s.heap [] := va_S.rf
  have hP : va_P D vwCl [(h0, .inr (4, [.ref p0, .ref r0, .int tm, .int cbf])), (p0, .inr (3, [.int (nI pB), .int (nI pS), .int (nI pG), .int (nI pE), .int (nI pC), .int (nI pO)])), (r0, .inr (2, [.ref r1, .int (nI n)])), (r1, .inl (cy 0, 70, .inl f))] s.heap := hP
  have hl := lv_entry ([.ref h0, .int (nI d)]) (n := 3) (Nat.le_of_ble_eq_true rfl)
  rw [lg_entry_eq]
  generalize (lg_sl ([.ref h0, .int (nI d)]) ++ List.replicate (3 - (lg_sl ([.ref h0, .int (nI d)])).length) Slot.unset).toArray = ls at hl ⊢
  have hl : lv_has ls 3 [(0, .ref h0), (1, .int (nI d))] := hl
  refine lv_aload_n hx hb dX3_endRow_0 rfl (lv_at hl 0 rfl) ?_
  refine lv_iload_n hx hb dX3_endRow_1 rfl (lv_at hl 1 rfl) ?_
  have hPc := hP.sub (ws' := [(h0, .inr (4, [.ref p0, .ref r0, .int tm, .int cbf])), (p0, .inr (3, [.int (nI pB), .int (nI pS), .int (nI pG), .int (nI pE), .int (nI pC), .int (nI pO)])), (r0, .inr (2, [.ref r1, .int (nI n)])), (r1, .inl (cy 0, 70, .inl f))]) [0, 1, 2, 3] rfl
  have hDc := hD.sub (ws' := [(h0, .inr (4, [.ref p0, .ref r0, .int tm, .int cbf])), (p0, .inr (3, [.int (nI pB), .int (nI pS), .int (nI pG), .int (nI pE), .int (nI pC), .int (nI pO)])), (r0, .inr (2, [.ref r1, .int (nI n)])), (r1, .inl (cy 0, 70, .inl f))]) [0, 1, 2, 3] (by decide) rfl
  have hFc := va_free (wc := [(h0, .inr (4, [.ref p0, .ref r0, .int tm, .int cbf])), (p0, .inr (3, [.int (nI pB), .int (nI pS), .int (nI pG), .int (nI pE), .int (nI pC), .int (nI pO)])), (r0, .inr (2, [.ref r1, .int (nI n)])), (r1, .inl (cy 0, 70, .inl f))]) hD hS hA [0, 1, 2, 3] rfl
  refine va_calli (va_runV (As := [.int (nI d)]) (rest := []) ⟨hx, hb, hml, hown, hts⟩ (c_X3_isInError l D cy s.heap.size h0 p0 r0 r1 tm cbf pB pS pG pE pC pO f n g d (by first | assumption | omega) (by first | assumption | omega) (by first | assumption | omega) (by first | assumption | omega)) (cwV 1 hts gX3_endRow_X3_isInError rfl rfl rfl (by decide +kernel) ⟨Nat.le_of_ble_eq_true rfl, Nat.le_of_ble_eq_true rfl⟩) (pv_V (ci := 4) (q := (RX3, TX3, 4)) hkk hPc hDc rfl rfl rfl) rfl rfl hl.1 rfl (lv_room (Nat.le_of_ble_eq_true rfl)) dX3_endRow_2 ⟨Nat.le_of_ble_eq_true rfl, Nat.le_of_ble_eq_true rfl⟩) hS (fun q _ h => hFc q h) hFc (fun r_2 u t H1 locs ht hvm hw hB hz1 hk1 hS => ?_)
  obtain ⟨hP1, hD1⟩ := hB
  rw [ht] at hP1
  try dsimp only at hw hP1 hD1
  obtain ⟨hP, hD⟩ := va_join (wr := []) (w1 := [(h0, .inr (4, [.ref p0, .ref r0, .int tm, .int cbf])), (p0, .inr (3, [.int (nI pB), .int (nI pS), .int (nI pG), .int (nI pE), .int (nI pC), .int (nI pO)])), (r0, .inr (2, [.ref r1, .int (nI n)])), (r1, .inl (cy 0, 70, .inl f))]) hP hD [0, 1, 2, 3] [] rfl rfl (by decide) (by decide) hk1 hFc hP1 hD1
  clear hPc hDc hFc hP1 hD1 hz1 hk1
  generalize H1 = H at hP hS ⊢
  have hP : va_P D vwCl [(h0, .inr (4, [.ref p0, .ref r0, .int tm, .int cbf])), (p0, .inr (3, [.int (nI pB), .int (nI pS), .int (nI pG), .int (nI pE), .int (nI pC), .int (nI pO)])), (r0, .inr (2, [.ref r1, .int (nI n)])), (r1, .inl (cy 0, 70, .inl f))] H := hP
  have hD : va_D A [(h0, .inr (4, [.ref p0, .ref r0, .int tm, .int cbf])), (p0, .inr (3, [.int (nI pB), .int (nI pS), .int (nI pG), .int (nI pE), .int (nI pC), .int (nI pO)])), (r0, .inr (2, [.ref r1, .int (nI n)])), (r1, .inl (cy 0, 70, .inl f))] := hD
  obtain rfl := hw
  have cut_20 : ∀ (r20 : Int32) (cb20 : Int32) (H : Heap) (locs : List Loc), r20 = (if rc_err pB pS pG pE pC pO d n g tm = 0 then rc_fd cbf (nI (be g 0 pO)) pC else 4) → cb20 = (if rc_err pB pS pG pE pC pO d n g tm = 0 then nI (be g 0 pO) else cbf) → va_P D vwCl [(h0, .inr (4, [.ref p0, .ref r0, .int tm, .int cb20])), (p0, .inr (3, [.int (nI pB), .int (nI pS), .int (nI pG), .int (nI pE), .int (nI pC), .int (nI pO)])), (r0, .inr (2, [.ref r1, .int (nI n)])), (r1, .inl (cy 0, 70, .inl f))] H → va_D A [(h0, .inr (4, [.ref p0, .ref r0, .int tm, .int cb20])), (p0, .inr (3, [.int (nI pB), .int (nI pS), .int (nI pG), .int (nI pE), .int (nI pC), .int (nI pO)])), (r0, .inr (2, [.ref r1, .int (nI n)])), (r1, .inl (cy 0, 70, .inl f))] → va_S A s.heap H locs → ∀ (ls : Array Slot), lv_has ls 3 [(0, .ref h0), (1, .int (nI d))] → W p l e (headSpec wsX3_endRow ({ frames := 5, cells := 0, slots := 0, locals := 109 } : Room)).room s m [.ref h0, .int (nI d)].toArray below meth c H locs 0 0 (MQ below (va_Qi (fun (r : Int32) (u : Unit) => r = if rc_err pB pS pG pE pC pO d n g tm = 0 then rc_fd cbf (nI (be g 0 pO)) pC else 4) (fun u t => va_P D vwCl [(h0, .inr (4, [.ref p0, .ref r0, .int 0, .int (if rc_err pB pS pG pE pC pO d n g tm = 0 then nI (be g 0 pO) else cbf)])), (p0, .inr (3, [.int (nI pB), .int (nI pS), .int (nI pG), .int (nI pE), .int (nI pC), .int (nI pO)])), (r0, .inr (2, [.ref r1, .int (nI 0)])), (r1, .inl (cy 0, 70, .inl f))] t.heap ∧ va_D A [(h0, .inr (4, [.ref p0, .ref r0, .int 0, .int (if rc_err pB pS pG pE pC pO d n g tm = 0 then nI (be g 0 pO) else cbf)])), (p0, .inr (3, [.int (nI pB), .int (nI pS), .int (nI pG), .int (nI pE), .int (nI pC), .int (nI pO)])), (r0, .inr (2, [.ref r1, .int (nI 0)])), (r1, .inl (cy 0, 70, .inl f))]) A) [.ref h0, .int (nI d)].toArray s 0 0 A) (F0 m 20 ls [.int r20]) := by
    intro r20 cb20 H locs hr20 hcb20 hP hD hS ls hl
    subst hr20
    subst hcb20
    refine lv_istore_n (lv' := [(2, .int (if rc_err pB pS pG pE pC pO d n g tm = 0 then rc_fd cbf (nI (be g 0 pO)) pC else 4)), (0, .ref h0), (1, .int (nI d))]) hx hb dX3_endRow_20 rfl hl (by decide) rfl (fun ls hl => ?_)
    refine lv_aload_n hx hb dX3_endRow_21 rfl (lv_at hl 1 rfl) ?_
    refine va_get (D := D) (ci := 4) (v := .ref r0) (C := RX3) (T := TX3) (N := 4) hx hb hts iw_X3_endRow_X3 hown hK hP 0 rfl rfl 1 (by decide) (hts _ lk_X3_endRow_f12) (fun _ h9 => h9) rfl dX3_endRow_22 ?_
    have hPc := hP.sub (ws' := [(r0, .inr (2, [.ref r1, .int (nI n)])), (r1, .inl (cy 0, 70, .inl f))]) [2, 3] rfl
    have hDc := hD.sub (ws' := [(r0, .inr (2, [.ref r1, .int (nI n)])), (r1, .inl (cy 0, 70, .inl f))]) [2, 3] (by decide) rfl
    have hFc := va_free (wc := [(r0, .inr (2, [.ref r1, .int (nI n)])), (r1, .inl (cy 0, 70, .inl f))]) hD hS hA [2, 3] rfl
    refine va_callv (va_runV (As := []) (rest := []) ⟨hx, hb, hml, hown, hts⟩ (c_X1_clear l D cy H.size r0 r1 f n ) (cwV 0 hts gX3_endRow_X1_clear rfl rfl rfl (by decide +kernel) ⟨Nat.le_of_ble_eq_true rfl, Nat.le_of_ble_eq_true rfl⟩) (pv_V (ci := 2) (q := (RX1, TX1, 2)) hkk hPc hDc rfl rfl rfl) rfl rfl hl.1 rfl (lv_room (Nat.le_of_ble_eq_true rfl)) dX3_endRow_25 ⟨Nat.le_of_ble_eq_true rfl, Nat.le_of_ble_eq_true rfl⟩) hS (fun q _ h => hFc q h) hFc (fun u t H1 locs ht hvm hw hB hz1 hk1 hS => ?_)
    obtain ⟨hP1, hD1⟩ := hB
    rw [ht] at hP1
    try dsimp only at hw hP1 hD1
    obtain ⟨hP, hD⟩ := va_join (wr := [(h0, .inr (4, [.ref p0, .ref r0, .int tm, .int (if rc_err pB pS pG pE pC pO d n g tm = 0 then nI (be g 0 pO) else cbf)])), (p0, .inr (3, [.int (nI pB), .int (nI pS), .int (nI pG), .int (nI pE), .int (nI pC), .int (nI pO)]))]) (w1 := [(r0, .inr (2, [.ref r1, .int (nI 0)])), (r1, .inl (cy 0, 70, .inl f))]) hP hD [2, 3] [0, 1] rfl rfl (by decide) (by decide) hk1 hFc hP1 hD1
    clear hPc hDc hFc hP1 hD1 hz1 hk1
    generalize H1 = H at hP hS ⊢
    have hP : va_P D vwCl [(h0, .inr (4, [.ref p0, .ref r0, .int tm, .int (if rc_err pB pS pG pE pC pO d n g tm = 0 then nI (be g 0 pO) else cbf)])), (p0, .inr (3, [.int (nI pB), .int (nI pS), .int (nI pG), .int (nI pE), .int (nI pC), .int (nI pO)])), (r0, .inr (2, [.ref r1, .int (nI 0)])), (r1, .inl (cy 0, 70, .inl f))] H := hP
    have hD : va_D A [(h0, .inr (4, [.ref p0, .ref r0, .int tm, .int (if rc_err pB pS pG pE pC pO d n g tm = 0 then nI (be g 0 pO) else cbf)])), (p0, .inr (3, [.int (nI pB), .int (nI pS), .int (nI pG), .int (nI pE), .int (nI pC), .int (nI pO)])), (r0, .inr (2, [.ref r1, .int (nI 0)])), (r1, .inl (cy 0, 70, .inl f))] := hD
    have hw_25 := hw
    refine lv_aload_n hx hb dX3_endRow_28 rfl (lv_at hl 1 rfl) ?_
    refine lv_iconst (v := 0) hx hb dX3_endRow_29 (by decide) ?_
    refine va_put (D := D) (ci := 4) (v := .int 0) (ty := .boolean) (C := RX3) (T := TX3) (N := 4) hx hb hts iw_X3_endRow_X3 tyX3 tyX3_ok nmX3 hown hK hP hD hS 0 rfl rfl 2 (by decide) (hts _ lk_X3_endRow_f30) (fun _ h9 => h9) rfl (by decide +kernel) rfl rfl (Nat.le_of_ble_eq_true rfl) dX3_endRow_30 (fun H locs hP hD hS => ?_)
    have hP : va_P D vwCl [(h0, .inr (4, [.ref p0, .ref r0, .int 0, .int (if rc_err pB pS pG pE pC pO d n g tm = 0 then nI (be g 0 pO) else cbf)])), (p0, .inr (3, [.int (nI pB), .int (nI pS), .int (nI pG), .int (nI pE), .int (nI pC), .int (nI pO)])), (r0, .inr (2, [.ref r1, .int (nI 0)])), (r1, .inl (cy 0, 70, .inl f))] H := hP
    have hD : va_D A [(h0, .inr (4, [.ref p0, .ref r0, .int 0, .int (if rc_err pB pS pG pE pC pO d n g tm = 0 then nI (be g 0 pO) else cbf)])), (p0, .inr (3, [.int (nI pB), .int (nI pS), .int (nI pG), .int (nI pE), .int (nI pC), .int (nI pO)])), (r0, .inr (2, [.ref r1, .int (nI 0)])), (r1, .inl (cy 0, 70, .inl f))] := hD
    refine lv_iload_n hx hb dX3_endRow_33 rfl (lv_at hl 0 rfl) ?_
    have hP9 := hP.sub (ws' := [(h0, .inr (4, [.ref p0, .ref r0, .int 0, .int (if rc_err pB pS pG pE pC pO d n g tm = 0 then nI (be g 0 pO) else cbf)])), (p0, .inr (3, [.int (nI pB), .int (nI pS), .int (nI pG), .int (nI pE), .int (nI pC), .int (nI pO)])), (r0, .inr (2, [.ref r1, .int (nI 0)])), (r1, .inl (cy 0, 70, .inl f))]) [0, 1, 2, 3] rfl
    have hD9 := hD.sub (ws' := [(h0, .inr (4, [.ref p0, .ref r0, .int 0, .int (if rc_err pB pS pG pE pC pO d n g tm = 0 then nI (be g 0 pO) else cbf)])), (p0, .inr (3, [.int (nI pB), .int (nI pS), .int (nI pG), .int (nI pE), .int (nI pC), .int (nI pO)])), (r0, .inr (2, [.ref r1, .int (nI 0)])), (r1, .inl (cy 0, 70, .inl f))]) [0, 1, 2, 3] (by decide) rfl
    exact W.iret (v := (if rc_err pB pS pG pE pC pO d n g tm = 0 then rc_fd cbf (nI (be g 0 pO)) pC else 4)) hx hb hr (fun t ht hW => ⟨⟨(if rc_err pB pS pG pE pC pO d n g tm = 0 then rc_fd cbf (nI (be g 0 pO)) pC else 4), (), rfl, rfl, by rw [ht]; exact hP9, hD9⟩, hS.F ht⟩) hS.2.2 dX3_endRow_34
  refine lv_if_eq (tgt := 12) hx hb dX3_endRow_5 (by decide) (fun c_5 => ?_) (fun c_5 => ?_)
  · have hO3 : pO ≤ n := rc_err_O c_5
    refine lv_aload_n hx hb dX3_endRow_12 rfl (lv_at hl 0 rfl) ?_
    refine lv_aload_n hx hb dX3_endRow_13 rfl (lv_at hl 0 rfl) ?_
    have hPc := hP.sub (ws' := [(h0, .inr (4, [.ref p0, .ref r0, .int tm, .int cbf])), (p0, .inr (3, [.int (nI pB), .int (nI pS), .int (nI pG), .int (nI pE), .int (nI pC), .int (nI pO)])), (r0, .inr (2, [.ref r1, .int (nI n)])), (r1, .inl (cy 0, 70, .inl f))]) [0, 1, 2, 3] rfl
    have hDc := hD.sub (ws' := [(h0, .inr (4, [.ref p0, .ref r0, .int tm, .int cbf])), (p0, .inr (3, [.int (nI pB), .int (nI pS), .int (nI pG), .int (nI pE), .int (nI pC), .int (nI pO)])), (r0, .inr (2, [.ref r1, .int (nI n)])), (r1, .inl (cy 0, 70, .inl f))]) [0, 1, 2, 3] (by decide) rfl
    have hFc := va_free (wc := [(h0, .inr (4, [.ref p0, .ref r0, .int tm, .int cbf])), (p0, .inr (3, [.int (nI pB), .int (nI pS), .int (nI pG), .int (nI pE), .int (nI pC), .int (nI pO)])), (r0, .inr (2, [.ref r1, .int (nI n)])), (r1, .inl (cy 0, 70, .inl f))]) hD hS hA [0, 1, 2, 3] rfl
    refine va_calli (va_runV (As := []) (rest := [.ref h0]) ⟨hx, hb, hml, hown, hts⟩ (c_X3_rowCounter l D cy H.size h0 p0 r0 r1 tm cbf pB pS pG pE pC pO f n g (by first | assumption | omega) (by first | assumption | omega) (by first | assumption | omega) hO3) (cwV 0 hts gX3_endRow_X3_rowCounter rfl rfl rfl (by decide +kernel) ⟨Nat.le_of_ble_eq_true rfl, Nat.le_of_ble_eq_true rfl⟩) (pv_V (ci := 4) (q := (RX3, TX3, 4)) hkk hPc hDc rfl rfl rfl) rfl rfl hl.1 rfl (lv_room (Nat.le_of_ble_eq_true rfl)) dX3_endRow_14 ⟨Nat.le_of_ble_eq_true rfl, Nat.le_of_ble_eq_true rfl⟩) hS (fun q _ h => hFc q h) hFc (fun r_14 u t H1 locs ht hvm hw hB hz1 hk1 hS => ?_)
    obtain ⟨hP1, hD1⟩ := hB
    rw [ht] at hP1
    try dsimp only at hw hP1 hD1
    obtain ⟨hP, hD⟩ := va_join (wr := []) (w1 := [(h0, .inr (4, [.ref p0, .ref r0, .int tm, .int cbf])), (p0, .inr (3, [.int (nI pB), .int (nI pS), .int (nI pG), .int (nI pE), .int (nI pC), .int (nI pO)])), (r0, .inr (2, [.ref r1, .int (nI n)])), (r1, .inl (cy 0, 70, .inl f))]) hP hD [0, 1, 2, 3] [] rfl rfl (by decide) (by decide) hk1 hFc hP1 hD1
    clear hPc hDc hFc hP1 hD1 hz1 hk1
    generalize H1 = H at hP hS ⊢
    have hP : va_P D vwCl [(h0, .inr (4, [.ref p0, .ref r0, .int tm, .int cbf])), (p0, .inr (3, [.int (nI pB), .int (nI pS), .int (nI pG), .int (nI pE), .int (nI pC), .int (nI pO)])), (r0, .inr (2, [.ref r1, .int (nI n)])), (r1, .inl (cy 0, 70, .inl f))] H := hP
    have hD : va_D A [(h0, .inr (4, [.ref p0, .ref r0, .int tm, .int cbf])), (p0, .inr (3, [.int (nI pB), .int (nI pS), .int (nI pG), .int (nI pE), .int (nI pC), .int (nI pO)])), (r0, .inr (2, [.ref r1, .int (nI n)])), (r1, .inl (cy 0, 70, .inl f))] := hD
    obtain rfl := hw
    have hPc := hP.sub (ws' := [(h0, .inr (4, [.ref p0, .ref r0, .int tm, .int cbf])), (p0, .inr (3, [.int (nI pB), .int (nI pS), .int (nI pG), .int (nI pE), .int (nI pC), .int (nI pO)])), (r0, .inr (2, [.ref r1, .int (nI n)])), (r1, .inl (cy 0, 70, .inl f))]) [0, 1, 2, 3] rfl
    have hDc := hD.sub (ws' := [(h0, .inr (4, [.ref p0, .ref r0, .int tm, .int cbf])), (p0, .inr (3, [.int (nI pB), .int (nI pS), .int (nI pG), .int (nI pE), .int (nI pC), .int (nI pO)])), (r0, .inr (2, [.ref r1, .int (nI n)])), (r1, .inl (cy 0, 70, .inl f))]) [0, 1, 2, 3] (by decide) rfl
    have hFc := va_free (wc := [(h0, .inr (4, [.ref p0, .ref r0, .int tm, .int cbf])), (p0, .inr (3, [.int (nI pB), .int (nI pS), .int (nI pG), .int (nI pE), .int (nI pC), .int (nI pO)])), (r0, .inr (2, [.ref r1, .int (nI n)])), (r1, .inl (cy 0, 70, .inl f))]) hD hS hA [0, 1, 2, 3] rfl
    refine va_calli (va_runV (As := [.int (nI (be g 0 pO))]) (rest := []) ⟨hx, hb, hml, hown, hts⟩ (c_X3_findingOf l D cy H.size h0 p0 r0 r1 tm cbf pB pS pG pE pC pO f n (nI (be g 0 pO)) (by first | assumption | omega)) (cwV 1 hts gX3_endRow_X3_findingOf rfl rfl rfl (by decide +kernel) ⟨Nat.le_of_ble_eq_true rfl, Nat.le_of_ble_eq_true rfl⟩) (pv_V (ci := 4) (q := (RX3, TX3, 4)) hkk hPc hDc rfl rfl rfl) rfl rfl hl.1 rfl (lv_room (Nat.le_of_ble_eq_true rfl)) dX3_endRow_17 ⟨Nat.le_of_ble_eq_true rfl, Nat.le_of_ble_eq_true rfl⟩) hS (fun q _ h => hFc q h) hFc (fun r_17 u t H1 locs ht hvm hw hB hz1 hk1 hS => ?_)
    obtain ⟨hP1, hD1⟩ := hB
    rw [ht] at hP1
    try dsimp only at hw hP1 hD1
    obtain ⟨hP, hD⟩ := va_join (wr := []) (w1 := [(h0, .inr (4, [.ref p0, .ref r0, .int tm, .int (nI (be g 0 pO))])), (p0, .inr (3, [.int (nI pB), .int (nI pS), .int (nI pG), .int (nI pE), .int (nI pC), .int (nI pO)])), (r0, .inr (2, [.ref r1, .int (nI n)])), (r1, .inl (cy 0, 70, .inl f))]) hP hD [0, 1, 2, 3] [] rfl rfl (by decide) (by decide) hk1 hFc hP1 hD1
    clear hPc hDc hFc hP1 hD1 hz1 hk1
    generalize H1 = H at hP hS ⊢
    have hP : va_P D vwCl [(h0, .inr (4, [.ref p0, .ref r0, .int tm, .int (nI (be g 0 pO))])), (p0, .inr (3, [.int (nI pB), .int (nI pS), .int (nI pG), .int (nI pE), .int (nI pC), .int (nI pO)])), (r0, .inr (2, [.ref r1, .int (nI n)])), (r1, .inl (cy 0, 70, .inl f))] H := hP
    have hD : va_D A [(h0, .inr (4, [.ref p0, .ref r0, .int tm, .int (nI (be g 0 pO))])), (p0, .inr (3, [.int (nI pB), .int (nI pS), .int (nI pG), .int (nI pE), .int (nI pC), .int (nI pO)])), (r0, .inr (2, [.ref r1, .int (nI n)])), (r1, .inl (cy 0, 70, .inl f))] := hD
    obtain rfl := hw
    exact cut_20 (rc_fd cbf (nI (be g 0 pO)) pC) (nI (be g 0 pO)) _ _ (if_pos c_5).symm (if_pos c_5).symm hP hD hS _ (lv_sub hl [0, 1] rfl)
  · refine lv_iconst (v := 4) hx hb dX3_endRow_8 (by decide) ?_
    refine lv_goto (tgt := 20) hx hb dX3_endRow_9 (by decide) ?_
    exact cut_20 4 cbf _ _ (if_neg c_5).symm (if_neg c_5).symm hP hD hS _ (lv_sub hl [0, 1] rfl)

theorem lk_X3_init_m3 : (.methodLink RX3 3 objectInit : Cond) ∈ wsX3_init := by decide +kernel
theorem lk_X3_init_oi : (.instanceMethod objectInit : Cond) ∈ wsX3_init := by decide +kernel
theorem lk_X3_init_oc : (.code objectInit ⟨#[0xb1]⟩ 1 none : Cond) ∈ wsX3_init := by decide +kernel
theorem iw_X3_init_X1 : ∀ w ∈ wsX10, w ∈ wsX3_init := by decide +kernel
theorem lk_X3_init_n9 : (.classLink RX3 9 RX1 : Cond) ∈ wsX3_init := by decide +kernel
theorem lk_X3_init_niX1 : (.instantiable RX1 2 : Cond) ∈ wsX3_init := by decide +kernel
theorem lk_X3_init_iniX1 : (.initialized RX1 : Cond) ∈ wsX3_init := by decide +kernel
theorem lk_X3_init_imyX1_init : (.instanceMethod yX1_init : Cond) ∈ wsX3_init := by decide +kernel
theorem iw_X3_init_X3 : ∀ w ∈ wsX30, w ∈ wsX3_init := by decide +kernel
theorem lk_X3_init_f12 : (.fieldLink RX3 12 "DataGuards$Receiver" "row" "LDataGuards$Octets;" : Cond) ∈ wsX3_init := by decide +kernel
theorem lk_X3_init_f18 : (.fieldLink RX3 18 "DataGuards$Receiver" "counterBefore" "I" : Cond) ∈ wsX3_init := by decide +kernel
theorem lk_X3_init_f22 : (.fieldLink RX3 22 "DataGuards$Receiver" "profile" "LDataGuards$Profile;" : Cond) ∈ wsX3_init := by decide +kernel
set_option maxHeartbeats 4000000 in
set_option maxRecDepth 100000 in
theorem c_X3_init (l : Launch) (D : va_G) (cy : Nat → ClassId) (sz : Nat) (h0 : Nat) (p0 : Nat)  : Met l yX3_init wsX3_init ({ frames := 2, cells := 2, slots := 72, locals := 40 } : Room) (pre1 D cy [.ref h0, .ref p0] [(h0, .inr (4, [.null, .null, .int 0, .int 0]))] sz) (va_Qv (fun (u : (Nat) × (Nat)) => True) (fun u t => va_P D vwCl [(h0, .inr (4, [.ref p0, .ref u.1, .int 0, .int (-1)])), (u.1, .inr (2, [.ref u.2, .int 0])), (u.2, .inl (cy 0, 70, .inl (fun _ => 0)))] t.heap ∧ va_D (va_A [(h0, .inr (4, [.null, .null, .int 0, .int 0]))] sz) [(h0, .inr (4, [.ref p0, .ref u.1, .int 0, .int (-1)])), (u.1, .inr (2, [.ref u.2, .int 0])), (u.2, .inl (cy 0, 70, .inl (fun _ => 0)))]) (va_A [(h0, .inr (4, [.null, .null, .int 0, .int 0]))] sz)) 2 72 (va_A [(h0, .inr (4, [.null, .null, .int 0, .int 0]))] sz) := by
  refine Met.ofW (cc := cX3_init) (maxL := 2) (ret := none) (by decide) rfl ?_
  intro p e s m args below meth c s₁ B hml hv
  obtain ⟨rfl, hsz, hP, hkk, hD0⟩ := hv
  have hx := B.exec
  have hb := B.bytes
  have hr := B.returns
  have hts := atoms_spec (ws := wsX3_init) B.pre
  have hown : s.vm.findClass RX3 = some m.cls := findClass_of_methodNamed B.named
  have hlocks := B.notSynchronized
  have hin : meth.name = _ := (name_of_methodNamed B.named B.method).1
  have hK := hkk.1
  subst hsz
  have hD := hD0.self (sz := s.heap.size)
  generalize hAe : va_A [(h0, .inr (4, [.null, .null, .int 0, .int 0]))] s.heap.size = A at hD ⊢
  have hA : ∀ q : Nat, s.heap.size ≤ q → A q := fun q h => by rw [← hAe]; exact Or.inr h
  have hS : va_S A s.heap s.heap [] := va_S.rf
  have hP : va_P D vwCl [(h0, .inr (4, [.null, .null, .int 0, .int 0]))] s.heap := hP
  have hl := lv_entry ([.ref h0, .ref p0]) (n := 2) (Nat.le_of_ble_eq_true rfl)
  rw [lg_entry_eq]
  generalize (lg_sl ([.ref h0, .ref p0]) ++ List.replicate (2 - (lg_sl ([.ref h0, .ref p0])).length) Slot.unset).toArray = ls at hl ⊢
  have hl : lv_has ls 2 [(0, .ref h0), (1, .ref p0)] := hl
  refine lv_aload_n hx hb dX3_init_0 rfl (lv_at hl 0 rfl) ?_
  refine W.objInit hx hb hown (hts _ lk_X3_init_m3) (hts _ lk_X3_init_oi) (hts _ lk_X3_init_oc) rfl (by rw [hml]; exact hl.1) rfl dX3_init_1 (Nat.le_of_ble_eq_true rfl) (Nat.le_of_ble_eq_true rfl) ?_
  refine W.eq (g2 := F0 m 4 ls []) rfl ?_
  refine lv_aload_n hx hb dX3_init_4 rfl (lv_at hl 0 rfl) ?_
  refine va_new (ci := 2) (fs := [.null, .int 0]) (C := RX1) (T := TX1) (N := 2) hx hb hts iw_X3_init_X1 tyX1 tyX1_ok hown (hts _ lk_X3_init_n9) (hts _ lk_X3_init_niX1) (hts _ lk_X3_init_iniX1) hK hP hD hS hA rfl (fun j hj => by rcases (show j = 0 ∨ j = 1 by omega) with rfl | rfl <;> rfl) (Nat.le_of_ble_eq_true rfl) (Nat.le_of_ble_eq_true rfl) dX3_init_5 (fun q_5 H hP hD hS => ?_)
  have hP : va_P D vwCl [(h0, .inr (4, [.null, .null, .int 0, .int 0])), (q_5, .inr (2, [.null, .int 0]))] H := hP
  have hD : va_D A [(h0, .inr (4, [.null, .null, .int 0, .int 0])), (q_5, .inr (2, [.null, .int 0]))] := hD
  refine W.widen (k := 1) (n := 2) (by decide) (by decide) ?_
  refine lv_dup hx hb dX3_init_8 rfl ?_
  have hPc := hP.sub (ws' := [(q_5, .inr (2, [.null, .int 0]))]) [1] rfl
  have hDc := hD.sub (ws' := [(q_5, .inr (2, [.null, .int 0]))]) [1] (by decide) rfl
  have hFc := va_free (wc := [(q_5, .inr (2, [.null, .int 0]))]) hD hS hA [1] rfl
  refine va_callv (va_runIN (As := []) (rest := [.ref q_5, .ref h0]) ⟨hx, hb, hml, hown, hts⟩ (c_X1_init l D cy H.size q_5 ) ⟨va_cnB 0 hts gX3_init_X1_init_n11 rfl rfl rfl (nw_get 10 rfl hkk.2) (hts _ lk_X3_init_iniX1) (by decide +kernel) ⟨Nat.le_of_ble_eq_true rfl, Nat.le_of_ble_eq_true rfl⟩, rfl, (hts _ lk_X3_init_imyX1_init)⟩ (pv_S hkk hPc hDc rfl) rfl rfl hl.1 rfl (lv_room (Nat.le_of_ble_eq_true rfl)) dX3_init_9 ⟨Nat.le_of_ble_eq_true rfl, Nat.le_of_ble_eq_true rfl⟩) hS (fun q _ h => hFc q h) hFc (fun u t H1 locs ht hvm hw hB hz1 hk1 hS => ?_)
  obtain ⟨h1_9, rfl⟩ : ∃ z, z = u := ⟨_, rfl⟩
  obtain ⟨hP1, hD1⟩ := hB
  rw [ht] at hP1
  try dsimp only at hw hP1 hD1
  obtain ⟨hP, hD⟩ := va_join (wr := [(h0, .inr (4, [.null, .null, .int 0, .int 0]))]) (w1 := [(q_5, .inr (2, [.ref h1_9, .int 0])), (h1_9, .inl (cy 0, 70, .inl (fun _ => 0)))]) hP hD [1] [0] rfl rfl (by decide) (by decide) hk1 hFc hP1 hD1
  clear hPc hDc hFc hP1 hD1 hz1 hk1
  generalize H1 = H at hP hS ⊢
  have hP : va_P D vwCl [(h0, .inr (4, [.null, .null, .int 0, .int 0])), (q_5, .inr (2, [.ref h1_9, .int 0])), (h1_9, .inl (cy 0, 70, .inl (fun _ => 0)))] H := hP
  have hD : va_D A [(h0, .inr (4, [.null, .null, .int 0, .int 0])), (q_5, .inr (2, [.ref h1_9, .int 0])), (h1_9, .inl (cy 0, 70, .inl (fun _ => 0)))] := hD
  refine W.widen (k := 2) (n := 72) (by decide) (by decide) ?_
  have hw_9 := hw
  refine va_putF (D := D) (ci := 4) (v := .ref q_5) (ty := (.object "DataGuards$Octets")) (C := RX3) (T := TX3) (N := 4) hx hb hts iw_X3_init_X3 tyX3 tyX3_ok nmX3 hown hK hP hD hS 0 rfl rfl 1 (by decide) (hts _ lk_X3_init_f12) (fun _ h9 => h9) rfl hin rfl (by decide +kernel) rfl rfl (Nat.le_of_ble_eq_true rfl) dX3_init_12 (fun H locs hP hD hS => ?_)
  have hP : va_P D vwCl [(h0, .inr (4, [.null, .ref q_5, .int 0, .int 0])), (q_5, .inr (2, [.ref h1_9, .int 0])), (h1_9, .inl (cy 0, 70, .inl (fun _ => 0)))] H := hP
  have hD : va_D A [(h0, .inr (4, [.null, .ref q_5, .int 0, .int 0])), (q_5, .inr (2, [.ref h1_9, .int 0])), (h1_9, .inl (cy 0, 70, .inl (fun _ => 0)))] := hD
  refine lv_aload_n hx hb dX3_init_15 rfl (lv_at hl 0 rfl) ?_
  refine lv_iconst (v := (-1)) hx hb dX3_init_16 (by decide) ?_
  refine va_put (D := D) (ci := 4) (v := .int (-1)) (ty := .int) (C := RX3) (T := TX3) (N := 4) hx hb hts iw_X3_init_X3 tyX3 tyX3_ok nmX3 hown hK hP hD hS 0 rfl rfl 3 (by decide) (hts _ lk_X3_init_f18) (fun _ h9 => h9) rfl (by decide +kernel) rfl rfl (Nat.le_of_ble_eq_true rfl) dX3_init_17 (fun H locs hP hD hS => ?_)
  have hP : va_P D vwCl [(h0, .inr (4, [.null, .ref q_5, .int 0, .int (-1)])), (q_5, .inr (2, [.ref h1_9, .int 0])), (h1_9, .inl (cy 0, 70, .inl (fun _ => 0)))] H := hP
  have hD : va_D A [(h0, .inr (4, [.null, .ref q_5, .int 0, .int (-1)])), (q_5, .inr (2, [.ref h1_9, .int 0])), (h1_9, .inl (cy 0, 70, .inl (fun _ => 0)))] := hD
  refine lv_aload_n hx hb dX3_init_20 rfl (lv_at hl 0 rfl) ?_
  refine lv_aload_n hx hb dX3_init_21 rfl (lv_at hl 1 rfl) ?_
  refine va_putF (D := D) (ci := 4) (v := .ref p0) (ty := (.object "DataGuards$Profile")) (C := RX3) (T := TX3) (N := 4) hx hb hts iw_X3_init_X3 tyX3 tyX3_ok nmX3 hown hK hP hD hS 0 rfl rfl 0 (by decide) (hts _ lk_X3_init_f22) (fun _ h9 => h9) rfl hin rfl (by decide +kernel) rfl rfl (Nat.le_of_ble_eq_true rfl) dX3_init_22 (fun H locs hP hD hS => ?_)
  have hP : va_P D vwCl [(h0, .inr (4, [.ref p0, .ref q_5, .int 0, .int (-1)])), (q_5, .inr (2, [.ref h1_9, .int 0])), (h1_9, .inl (cy 0, 70, .inl (fun _ => 0)))] H := hP
  have hD : va_D A [(h0, .inr (4, [.ref p0, .ref q_5, .int 0, .int (-1)])), (q_5, .inr (2, [.ref h1_9, .int 0])), (h1_9, .inl (cy 0, 70, .inl (fun _ => 0)))] := hD
  have hP9 := hP.sub (ws' := [(h0, .inr (4, [.ref p0, .ref q_5, .int 0, .int (-1)])), (q_5, .inr (2, [.ref h1_9, .int 0])), (h1_9, .inl (cy 0, 70, .inl (fun _ => 0)))]) [0, 1, 2] rfl
  have hD9 := hD.sub (ws' := [(h0, .inr (4, [.ref p0, .ref q_5, .int 0, .int (-1)])), (q_5, .inr (2, [.ref h1_9, .int 0])), (h1_9, .inl (cy 0, 70, .inl (fun _ => 0)))]) [0, 1, 2] (by decide) rfl
  exact W.vret hx hb hr (fun t ht hW => ⟨⟨(q_5, h1_9), rfl, trivial, by rw [ht]; exact hP9, hD9⟩, hS.F ht⟩) hS.2.2 dX3_init_25
end
section
/-- which profile a number gives -/
def nmb (i v1 v2 v3 v4 v5 v6 : Int32) : Prop := (¬ i = 2 ∧ ¬ i = 3 ∧ v1 = 8 ∧ v2 = 29 ∧ v3 = 255 ∧ v4 = 255 ∧ v5 = 15 ∧ v6 = 1) ∨ (i = 2 ∧ v1 = 16 ∧ v2 = 4129 ∧ v3 = 65535 ∧ v4 = 0 ∧ v5 = 256 ∧ v6 = 1) ∨ (i = 3 ∧ v1 = 32 ∧ v2 = -189989101 ∧ v3 = -1 ∧ v4 = -1 ∧ v5 = 65536 ∧ v6 = 2)
end
section
theorem iw_X2_numbered_X2 : ∀ w ∈ wsX20, w ∈ wsX2_numbered := by decide +kernel
theorem lk_X2_numbered_n10 : (.classLink RX2 10 RX2 : Cond) ∈ wsX2_numbered := by decide +kernel
theorem lk_X2_numbered_niX2 : (.instantiable RX2 6 : Cond) ∈ wsX2_numbered := by decide +kernel
theorem lk_X2_numbered_iniX2 : (.initialized RX2 : Cond) ∈ wsX2_numbered := by decide +kernel
theorem lk_X2_numbered_k30 : (.constant RX2 30 (65535) : Cond) ∈ wsX2_numbered := by decide +kernel
theorem lk_X2_numbered_m31 : (.methodLink RX2 31 yX2_init : Cond) ∈ wsX2_numbered := by decide +kernel
theorem lk_X2_numbered_imyX2_init : (.instanceMethod yX2_init : Cond) ∈ wsX2_numbered := by decide +kernel
theorem lk_X2_numbered_k34 : (.constant RX2 34 (-189989101) : Cond) ∈ wsX2_numbered := by decide +kernel
theorem lk_X2_numbered_k35 : (.constant RX2 35 (65536) : Cond) ∈ wsX2_numbered := by decide +kernel
set_option maxHeartbeats 4000000 in
set_option maxRecDepth 100000 in
theorem c_X2_numbered (l : Launch) (D : va_G) (cy : Nat → ClassId) (sz : Nat) (i : Int32)  : Met l yX2_numbered wsX2_numbered ({ frames := 2, cells := 1, slots := 6, locals := 46 } : Room) (pre1 D cy [.int i] [] sz) (va_Qr (fun (u : (Int32) × (Int32) × (Int32) × (Int32) × (Int32) × (Int32)) => (nmb i u.1 u.2.1 u.2.2.1 u.2.2.2.1 u.2.2.2.2.1 u.2.2.2.2.2)) (fun u ra t => va_P D vwCl [(ra, .inr (3, [.int u.1, .int u.2.1, .int u.2.2.1, .int u.2.2.2.1, .int u.2.2.2.2.1, .int u.2.2.2.2.2]))] t.heap ∧ va_D (va_A [] sz) [(ra, .inr (3, [.int u.1, .int u.2.1, .int u.2.2.1, .int u.2.2.2.1, .int u.2.2.2.2.1, .int u.2.2.2.2.2]))]) (va_A [] sz)) 1 6 (va_A [] sz) := by
  refine Met.ofW (cc := cX2_numbered) (maxL := 1) (ret := (some (.object "DataGuards$Profile"))) (by decide) rfl ?_
  intro p e s m args below meth c s₁ B hml hv
  obtain ⟨rfl, hsz, hP, hkk, hD0⟩ := hv
  have hx := B.exec
  have hb := B.bytes
  have hr := B.returns
  have hts := atoms_spec (ws := wsX2_numbered) B.pre
  have hown : s.vm.findClass RX2 = some m.cls := findClass_of_methodNamed B.named
  have hlocks := B.notSynchronized
  have hin : meth.name = _ := (name_of_methodNamed B.named B.method).1
  have hK := hkk.1
  subst hsz
  have hD := hD0.self (sz := s.heap.size)
  generalize hAe : va_A [] s.heap.size = A at hD ⊢
  have hA : ∀ q : Nat, s.heap.size ≤ q → A q := fun q h => by rw [← hAe]; exact Or.inr h
  have hS : va_S A s.heap s.heap [] := va_S.rf
  have hP : va_P D vwCl [] s.heap := hP
  have hl := lv_entry ([.int i]) (n := 1) (Nat.le_of_ble_eq_true rfl)
  rw [lg_entry_eq]
  generalize (lg_sl ([.int i]) ++ List.replicate (1 - (lg_sl ([.int i])).length) Slot.unset).toArray = ls at hl ⊢
  have hl : lv_has ls 1 [(0, .int i)] := hl
  refine lv_iload_n hx hb dX2_numbered_0 rfl (lv_at hl 0 rfl) ?_
  have hsw_1 : ∀ z : Int32, z = i → z = i := fun _ h => h
  by_cases sw_1_0 : i = 2
  · refine lv_lookup (tgt := 28) (off := 27) hx hb dX2_numbered_1 (by decide) (by rw [sw_1_0]; decide) (by decide) ?_
    refine va_new (ci := 3) (fs := [.int 0, .int 0, .int 0, .int 0, .int 0, .int 0]) (C := RX2) (T := TX2) (N := 6) hx hb hts iw_X2_numbered_X2 tyX2 tyX2_ok hown (hts _ lk_X2_numbered_n10) (hts _ lk_X2_numbered_niX2) (hts _ lk_X2_numbered_iniX2) hK hP hD hS hA rfl (fun j hj => by rcases (show j = 0 ∨ j = 1 ∨ j = 2 ∨ j = 3 ∨ j = 4 ∨ j = 5 by omega) with rfl | rfl | rfl | rfl | rfl | rfl <;> rfl) (Nat.le_of_ble_eq_true rfl) (Nat.le_of_ble_eq_true rfl) dX2_numbered_28 (fun q_28 H hP hD hS => ?_)
    have hP : va_P D vwCl [(q_28, .inr (3, [.int 0, .int 0, .int 0, .int 0, .int 0, .int 0]))] H := hP
    have hD : va_D A [(q_28, .inr (3, [.int 0, .int 0, .int 0, .int 0, .int 0, .int 0]))] := hD
    refine W.widen (k := 1) (n := 6) (by decide) (by decide) ?_
    refine lv_dup hx hb dX2_numbered_31 rfl ?_
    refine lv_bipush (v := 16) hx hb dX2_numbered_32 (by decide) ?_
    refine lv_sipush (v := 4129) hx hb dX2_numbered_34 (by decide) ?_
    refine lv_ldc (v := 65535) hx hb hown (hts _ lk_X2_numbered_k30) dX2_numbered_37 ?_
    refine lv_iconst (v := 0) hx hb dX2_numbered_39 (by decide) ?_
    refine lv_sipush (v := 256) hx hb dX2_numbered_40 (by decide) ?_
    refine lv_iconst (v := 1) hx hb dX2_numbered_43 (by decide) ?_
    have hPc := hP.sub (ws' := [(q_28, .inr (3, [.int 0, .int 0, .int 0, .int 0, .int 0, .int 0]))]) [0] rfl
    have hDc := hD.sub (ws' := [(q_28, .inr (3, [.int 0, .int 0, .int 0, .int 0, .int 0, .int 0]))]) [0] (by decide) rfl
    have hFc := va_free (wc := [(q_28, .inr (3, [.int 0, .int 0, .int 0, .int 0, .int 0, .int 0]))]) hD hS hA [0] rfl
    refine va_callv (va_runI (As := [.int 16, .int 4129, .int 65535, .int 0, .int 256, .int 1]) (rest := [.ref q_28]) ⟨hx, hb, hml, hown, hts⟩ (c_X2_init l D cy H.size q_28 16 4129 65535 0 256 1 ) (cwI 6 hts gX2_numbered_X2_init rfl rfl rfl (hts _ lk_X2_numbered_iniX2) (hts _ lk_X2_numbered_m31) (hts _ lk_X2_numbered_imyX2_init) rfl (by decide +kernel) ⟨Nat.le_of_ble_eq_true rfl, Nat.le_of_ble_eq_true rfl⟩) (pv_S hkk hPc hDc rfl) rfl rfl hl.1 rfl (lv_room (Nat.le_of_ble_eq_true rfl)) dX2_numbered_44 ⟨Nat.le_of_ble_eq_true rfl, Nat.le_of_ble_eq_true rfl⟩) hS (fun q _ h => hFc q h) hFc (fun u t H1 locs ht hvm hw hB hz1 hk1 hS => ?_)
    obtain ⟨hP1, hD1⟩ := hB
    rw [ht] at hP1
    try dsimp only at hw hP1 hD1
    obtain ⟨hP, hD⟩ := va_join (wr := []) (w1 := [(q_28, .inr (3, [.int 16, .int 4129, .int 65535, .int 0, .int 256, .int 1]))]) hP hD [0] [] rfl rfl (by decide) (by decide) hk1 hFc hP1 hD1
    clear hPc hDc hFc hP1 hD1 hz1 hk1
    generalize H1 = H at hP hS ⊢
    have hP : va_P D vwCl [(q_28, .inr (3, [.int 16, .int 4129, .int 65535, .int 0, .int 256, .int 1]))] H := hP
    have hD : va_D A [(q_28, .inr (3, [.int 16, .int 4129, .int 65535, .int 0, .int 256, .int 1]))] := hD
    have hw_44 := hw
    have hP9 := hP.sub (ws' := [(q_28, .inr (3, [.int 16, .int 4129, .int 65535, .int 0, .int 256, .int 1]))]) [0] rfl
    have hD9 := hD.sub (ws' := [(q_28, .inr (3, [.int 16, .int 4129, .int 65535, .int 0, .int 256, .int 1]))]) [0] (by decide) rfl
    exact W.aret (v := .ref q_28) hx hb hr (Or.inl ⟨_, rfl⟩) (Or.inr ⟨_, rfl⟩) (fun t ht hW => ⟨⟨(16, 4129, 65535, 0, 256, 1), q_28, rfl, Or.inr (Or.inl ⟨sw_1_0, rfl, rfl, rfl, rfl, rfl, rfl⟩), by rw [ht]; exact hP9, hD9⟩, hS.F ht⟩) hS.2.2 dX2_numbered_47
  by_cases sw_1_1 : i = 3
  · refine lv_lookup (tgt := 48) (off := 47) hx hb dX2_numbered_1 (by decide) (by rw [sw_1_1]; decide) (by decide) ?_
    refine va_new (ci := 3) (fs := [.int 0, .int 0, .int 0, .int 0, .int 0, .int 0]) (C := RX2) (T := TX2) (N := 6) hx hb hts iw_X2_numbered_X2 tyX2 tyX2_ok hown (hts _ lk_X2_numbered_n10) (hts _ lk_X2_numbered_niX2) (hts _ lk_X2_numbered_iniX2) hK hP hD hS hA rfl (fun j hj => by rcases (show j = 0 ∨ j = 1 ∨ j = 2 ∨ j = 3 ∨ j = 4 ∨ j = 5 by omega) with rfl | rfl | rfl | rfl | rfl | rfl <;> rfl) (Nat.le_of_ble_eq_true rfl) (Nat.le_of_ble_eq_true rfl) dX2_numbered_48 (fun q_48 H hP hD hS => ?_)
    have hP : va_P D vwCl [(q_48, .inr (3, [.int 0, .int 0, .int 0, .int 0, .int 0, .int 0]))] H := hP
    have hD : va_D A [(q_48, .inr (3, [.int 0, .int 0, .int 0, .int 0, .int 0, .int 0]))] := hD
    refine W.widen (k := 1) (n := 6) (by decide) (by decide) ?_
    refine lv_dup hx hb dX2_numbered_51 rfl ?_
    refine lv_bipush (v := 32) hx hb dX2_numbered_52 (by decide) ?_
    refine lv_ldc (v := (-189989101)) hx hb hown (hts _ lk_X2_numbered_k34) dX2_numbered_54 ?_
    refine lv_iconst (v := (-1)) hx hb dX2_numbered_56 (by decide) ?_
    refine lv_iconst (v := (-1)) hx hb dX2_numbered_57 (by decide) ?_
    refine lv_ldc (v := 65536) hx hb hown (hts _ lk_X2_numbered_k35) dX2_numbered_58 ?_
    refine lv_iconst (v := 2) hx hb dX2_numbered_60 (by decide) ?_
    have hPc := hP.sub (ws' := [(q_48, .inr (3, [.int 0, .int 0, .int 0, .int 0, .int 0, .int 0]))]) [0] rfl
    have hDc := hD.sub (ws' := [(q_48, .inr (3, [.int 0, .int 0, .int 0, .int 0, .int 0, .int 0]))]) [0] (by decide) rfl
    have hFc := va_free (wc := [(q_48, .inr (3, [.int 0, .int 0, .int 0, .int 0, .int 0, .int 0]))]) hD hS hA [0] rfl
    refine va_callv (va_runI (As := [.int 32, .int (-189989101), .int (-1), .int (-1), .int 65536, .int 2]) (rest := [.ref q_48]) ⟨hx, hb, hml, hown, hts⟩ (c_X2_init l D cy H.size q_48 32 (-189989101) (-1) (-1) 65536 2 ) (cwI 6 hts gX2_numbered_X2_init rfl rfl rfl (hts _ lk_X2_numbered_iniX2) (hts _ lk_X2_numbered_m31) (hts _ lk_X2_numbered_imyX2_init) rfl (by decide +kernel) ⟨Nat.le_of_ble_eq_true rfl, Nat.le_of_ble_eq_true rfl⟩) (pv_S hkk hPc hDc rfl) rfl rfl hl.1 rfl (lv_room (Nat.le_of_ble_eq_true rfl)) dX2_numbered_61 ⟨Nat.le_of_ble_eq_true rfl, Nat.le_of_ble_eq_true rfl⟩) hS (fun q _ h => hFc q h) hFc (fun u t H1 locs ht hvm hw hB hz1 hk1 hS => ?_)
    obtain ⟨hP1, hD1⟩ := hB
    rw [ht] at hP1
    try dsimp only at hw hP1 hD1
    obtain ⟨hP, hD⟩ := va_join (wr := []) (w1 := [(q_48, .inr (3, [.int 32, .int (-189989101), .int (-1), .int (-1), .int 65536, .int 2]))]) hP hD [0] [] rfl rfl (by decide) (by decide) hk1 hFc hP1 hD1
    clear hPc hDc hFc hP1 hD1 hz1 hk1
    generalize H1 = H at hP hS ⊢
    have hP : va_P D vwCl [(q_48, .inr (3, [.int 32, .int (-189989101), .int (-1), .int (-1), .int 65536, .int 2]))] H := hP
    have hD : va_D A [(q_48, .inr (3, [.int 32, .int (-189989101), .int (-1), .int (-1), .int 65536, .int 2]))] := hD
    have hw_61 := hw
    have hP9 := hP.sub (ws' := [(q_48, .inr (3, [.int 32, .int (-189989101), .int (-1), .int (-1), .int 65536, .int 2]))]) [0] rfl
    have hD9 := hD.sub (ws' := [(q_48, .inr (3, [.int 32, .int (-189989101), .int (-1), .int (-1), .int 65536, .int 2]))]) [0] (by decide) rfl
    exact W.aret (v := .ref q_48) hx hb hr (Or.inl ⟨_, rfl⟩) (Or.inr ⟨_, rfl⟩) (fun t ht hW => ⟨⟨(32, -189989101, -1, -1, 65536, 2), q_48, rfl, Or.inr (Or.inr ⟨sw_1_1, rfl, rfl, rfl, rfl, rfl, rfl⟩), by rw [ht]; exact hP9, hD9⟩, hS.F ht⟩) hS.2.2 dX2_numbered_64
  refine lv_lookup (tgt := 65) (off := 64) hx hb dX2_numbered_1 (by decide) (by show Op.lookupswitch.offset [(2, 27), (3, 47)] 64 _ = _; rw [lv_osw sw_1_0 (k := 2) (a := 2) (by decide), lv_osw sw_1_1 (k := 3) (a := 3) (by decide)]; rfl) (by decide) ?_
  refine va_new (ci := 3) (fs := [.int 0, .int 0, .int 0, .int 0, .int 0, .int 0]) (C := RX2) (T := TX2) (N := 6) hx hb hts iw_X2_numbered_X2 tyX2 tyX2_ok hown (hts _ lk_X2_numbered_n10) (hts _ lk_X2_numbered_niX2) (hts _ lk_X2_numbered_iniX2) hK hP hD hS hA rfl (fun j hj => by rcases (show j = 0 ∨ j = 1 ∨ j = 2 ∨ j = 3 ∨ j = 4 ∨ j = 5 by omega) with rfl | rfl | rfl | rfl | rfl | rfl <;> rfl) (Nat.le_of_ble_eq_true rfl) (Nat.le_of_ble_eq_true rfl) dX2_numbered_65 (fun q_65 H hP hD hS => ?_)
  have hP : va_P D vwCl [(q_65, .inr (3, [.int 0, .int 0, .int 0, .int 0, .int 0, .int 0]))] H := hP
  have hD : va_D A [(q_65, .inr (3, [.int 0, .int 0, .int 0, .int 0, .int 0, .int 0]))] := hD
  refine W.widen (k := 1) (n := 6) (by decide) (by decide) ?_
  refine lv_dup hx hb dX2_numbered_68 rfl ?_
  refine lv_bipush (v := 8) hx hb dX2_numbered_69 (by decide) ?_
  refine lv_bipush (v := 29) hx hb dX2_numbered_71 (by decide) ?_
  refine lv_sipush (v := 255) hx hb dX2_numbered_73 (by decide) ?_
  refine lv_sipush (v := 255) hx hb dX2_numbered_76 (by decide) ?_
  refine lv_bipush (v := 15) hx hb dX2_numbered_79 (by decide) ?_
  refine lv_iconst (v := 1) hx hb dX2_numbered_81 (by decide) ?_
  have hPc := hP.sub (ws' := [(q_65, .inr (3, [.int 0, .int 0, .int 0, .int 0, .int 0, .int 0]))]) [0] rfl
  have hDc := hD.sub (ws' := [(q_65, .inr (3, [.int 0, .int 0, .int 0, .int 0, .int 0, .int 0]))]) [0] (by decide) rfl
  have hFc := va_free (wc := [(q_65, .inr (3, [.int 0, .int 0, .int 0, .int 0, .int 0, .int 0]))]) hD hS hA [0] rfl
  refine va_callv (va_runI (As := [.int 8, .int 29, .int 255, .int 255, .int 15, .int 1]) (rest := [.ref q_65]) ⟨hx, hb, hml, hown, hts⟩ (c_X2_init l D cy H.size q_65 8 29 255 255 15 1 ) (cwI 6 hts gX2_numbered_X2_init rfl rfl rfl (hts _ lk_X2_numbered_iniX2) (hts _ lk_X2_numbered_m31) (hts _ lk_X2_numbered_imyX2_init) rfl (by decide +kernel) ⟨Nat.le_of_ble_eq_true rfl, Nat.le_of_ble_eq_true rfl⟩) (pv_S hkk hPc hDc rfl) rfl rfl hl.1 rfl (lv_room (Nat.le_of_ble_eq_true rfl)) dX2_numbered_82 ⟨Nat.le_of_ble_eq_true rfl, Nat.le_of_ble_eq_true rfl⟩) hS (fun q _ h => hFc q h) hFc (fun u t H1 locs ht hvm hw hB hz1 hk1 hS => ?_)
  obtain ⟨hP1, hD1⟩ := hB
  rw [ht] at hP1
  try dsimp only at hw hP1 hD1
  obtain ⟨hP, hD⟩ := va_join (wr := []) (w1 := [(q_65, .inr (3, [.int 8, .int 29, .int 255, .int 255, .int 15, .int 1]))]) hP hD [0] [] rfl rfl (by decide) (by decide) hk1 hFc hP1 hD1
  clear hPc hDc hFc hP1 hD1 hz1 hk1
  generalize H1 = H at hP hS ⊢
  have hP : va_P D vwCl [(q_65, .inr (3, [.int 8, .int 29, .int 255, .int 255, .int 15, .int 1]))] H := hP
  have hD : va_D A [(q_65, .inr (3, [.int 8, .int 29, .int 255, .int 255, .int 15, .int 1]))] := hD
  have hw_82 := hw
  have hP9 := hP.sub (ws' := [(q_65, .inr (3, [.int 8, .int 29, .int 255, .int 255, .int 15, .int 1]))]) [0] rfl
  have hD9 := hD.sub (ws' := [(q_65, .inr (3, [.int 8, .int 29, .int 255, .int 255, .int 15, .int 1]))]) [0] (by decide) rfl
  exact W.aret (v := .ref q_65) hx hb hr (Or.inl ⟨_, rfl⟩) (Or.inr ⟨_, rfl⟩) (fun t ht hW => ⟨⟨(8, 29, 255, 255, 15, 1), q_65, rfl, Or.inl ⟨sw_1_0, sw_1_1, rfl, rfl, rfl, rfl, rfl, rfl⟩, by rw [ht]; exact hP9, hD9⟩, hS.F ht⟩) hS.2.2 dX2_numbered_85

theorem iw_X4_collect_X4 : ∀ w ∈ wsX40, w ∈ wsX4_collect := by decide +kernel
theorem lk_X4_collect_f12 : (.fieldLink RX4 12 "DataGuards$Sender" "data" "LDataGuards$Octets;" : Cond) ∈ wsX4_collect := by decide +kernel
theorem iw_X4_collect_X1 : ∀ w ∈ wsX10, w ∈ wsX4_collect := by decide +kernel
set_option maxHeartbeats 4000000 in
set_option maxRecDepth 100000 in
theorem c_X4_collect (l : Launch) (D : va_G) (cy : Nat → ClassId) (sz : Nat) (h0 : Nat) (p0 : Nat) (d0 : Nat) (d1 : Nat) (r0 : Nat) (r1 : Nat) (ct : Int32) (fp : Int32) (fk : Int32) (sk : Int32) (pB : Nat) (pS : Nat) (pG : Nat) (pE : Nat) (pC : Nat) (pO : Nat) (f : Nat → Int32) (n : Nat) (rf : Nat → Int32) (rn : Nat) (x : Int32) (hn : n ≤ 64) : Met l yX4_collect wsX4_collect ({ frames := 1, cells := 0, slots := 0, locals := 21 } : Room) (pre1 D cy [.ref h0, .int x] [(h0, .inr (5, [.ref p0, .ref d0, .ref r0, .int ct, .int fp, .int fk, .int sk])), (p0, .inr (3, [.int (nI pB), .int (nI pS), .int (nI pG), .int (nI pE), .int (nI pC), .int (nI pO)])), (d0, .inr (2, [.ref d1, .int (nI n)])), (d1, .inl (cy 0, 70, .inl f)), (r0, .inr (2, [.ref r1, .int (nI rn)])), (r1, .inl (cy 0, 70, .inl rf))] sz) (va_Qv (fun (u : (Nat → Int32) × (Nat)) => (sc_col f n x u.1 u.2)) (fun u t => va_P D vwCl [(h0, .inr (5, [.ref p0, .ref d0, .ref r0, .int ct, .int fp, .int fk, .int sk])), (p0, .inr (3, [.int (nI pB), .int (nI pS), .int (nI pG), .int (nI pE), .int (nI pC), .int (nI pO)])), (d0, .inr (2, [.ref d1, .int (nI u.2)])), (d1, .inl (cy 0, 70, .inl u.1)), (r0, .inr (2, [.ref r1, .int (nI rn)])), (r1, .inl (cy 0, 70, .inl rf))] t.heap ∧ va_D (va_A [(h0, .inr (5, [.ref p0, .ref d0, .ref r0, .int ct, .int fp, .int fk, .int sk])), (p0, .inr (3, [.int (nI pB), .int (nI pS), .int (nI pG), .int (nI pE), .int (nI pC), .int (nI pO)])), (d0, .inr (2, [.ref d1, .int (nI n)])), (d1, .inl (cy 0, 70, .inl f)), (r0, .inr (2, [.ref r1, .int (nI rn)])), (r1, .inl (cy 0, 70, .inl rf))] sz) [(h0, .inr (5, [.ref p0, .ref d0, .ref r0, .int ct, .int fp, .int fk, .int sk])), (p0, .inr (3, [.int (nI pB), .int (nI pS), .int (nI pG), .int (nI pE), .int (nI pC), .int (nI pO)])), (d0, .inr (2, [.ref d1, .int (nI u.2)])), (d1, .inl (cy 0, 70, .inl u.1)), (r0, .inr (2, [.ref r1, .int (nI rn)])), (r1, .inl (cy 0, 70, .inl rf))]) (va_A [(h0, .inr (5, [.ref p0, .ref d0, .ref r0, .int ct, .int fp, .int fk, .int sk])), (p0, .inr (3, [.int (nI pB), .int (nI pS), .int (nI pG), .int (nI pE), .int (nI pC), .int (nI pO)])), (d0, .inr (2, [.ref d1, .int (nI n)])), (d1, .inl (cy 0, 70, .inl f)), (r0, .inr (2, [.ref r1, .int (nI rn)])), (r1, .inl (cy 0, 70, .inl rf))] sz)) 0 0 (va_A [(h0, .inr (5, [.ref p0, .ref d0, .ref r0, .int ct, .int fp, .int fk, .int sk])), (p0, .inr (3, [.int (nI pB), .int (nI pS), .int (nI pG), .int (nI pE), .int (nI pC), .int (nI pO)])), (d0, .inr (2, [.ref d1, .int (nI n)])), (d1, .inl (cy 0, 70, .inl f)), (r0, .inr (2, [.ref r1, .int (nI rn)])), (r1, .inl (cy 0, 70, .inl rf))] sz) := by
  refine Met.ofW (cc := cX4_collect) (maxL := 2) (ret := none) (by decide) rfl ?_
  intro p e s m args below meth c s₁ B hml hv
  obtain ⟨rfl, hsz, hP, hkk, hD0⟩ := hv
  have hx := B.exec
  have hb := B.bytes
  have hr := B.returns
  have hts := atoms_spec (ws := wsX4_collect) B.pre
  have hown : s.vm.findClass RX4 = some m.cls := findClass_of_methodNamed B.named
  have hlocks := B.notSynchronized
  have hin : meth.name = _ := (name_of_methodNamed B.named B.method).1
  have hK := hkk.1
  subst hsz
  have hD := hD0.self (sz := s.heap.size)
  generalize hAe : va_A [(h0, .inr (5, [.ref p0, .ref d0, .ref r0, .int ct, .int fp, .int fk, .int sk])), (p0, .inr (3, [.int (nI pB), .int (nI pS), .int (nI pG), .int (nI pE), .int (nI pC), .int (nI pO)])), (d0, .inr (2, [.ref d1, .int (nI n)])), (d1, .inl (cy 0, 70, .inl f)), (r0, .inr (2, [.ref r1, .int (nI rn)])), (r1, .inl (cy 0, 70, .inl rf))] s.heap.size = A at hD ⊢
  have hA : ∀ q : Nat, s.heap.size ≤ q → A q := fun q h => by rw [← hAe]; exact Or.inr h
  have hS : va_S A s.heap s.heap [] := va_S.rf
  have hP : va_P D vwCl [(h0, .inr (5, [.ref p0, .ref d0, .ref r0, .int ct, .int fp, .int fk, .int sk])), (p0, .inr (3, [.int (nI pB), .int (nI pS), .int (nI pG), .int (nI pE), .int (nI pC), .int (nI pO)])), (d0, .inr (2, [.ref d1, .int (nI n)])), (d1, .inl (cy 0, 70, .inl f)), (r0, .inr (2, [.ref r1, .int (nI rn)])), (r1, .inl (cy 0, 70, .inl rf))] s.heap := hP
  have hl := lv_entry ([.ref h0, .int x]) (n := 2) (Nat.le_of_ble_eq_true rfl)
  rw [lg_entry_eq]
  generalize (lg_sl ([.ref h0, .int x]) ++ List.replicate (2 - (lg_sl ([.ref h0, .int x])).length) Slot.unset).toArray = ls at hl ⊢
  have hl : lv_has ls 2 [(0, .ref h0), (1, .int x)] := hl
  refine lv_aload_n hx hb dX4_collect_0 rfl (lv_at hl 0 rfl) ?_
  refine va_get (D := D) (ci := 5) (v := .ref d0) (C := RX4) (T := TX4) (N := 7) hx hb hts iw_X4_collect_X4 hown hK hP 0 rfl rfl 1 (by decide) (hts _ lk_X4_collect_f12) (fun _ h9 => h9) rfl dX4_collect_1 ?_
  refine va_getN (D := D) (ci := 2) (v := .int (nI n)) (C := RX1) (T := TX1) (N := 2) hx hb hts iw_X4_collect_X1 hown hK hP 2 rfl rfl 1 (by decide) (nw_use 3 rfl rfl hkk.2) (fun _ h9 => h9) rfl dX4_collect_4 ?_
  refine lv_bipush (v := 64) hx hb dX4_collect_7 (by decide) ?_
  refine lv_icmp_ge (tgt := 21) hx hb dX4_collect_9 (by decide) (fun c_9 => ?_) (fun c_9 => ?_)
  · have hn6 : ¬ n < 64 := by rw [i32_64] at c_9; exact fun q => absurd c_9 (nI_ge q (by decide))
    have hP9 := hP.sub (ws' := [(h0, .inr (5, [.ref p0, .ref d0, .ref r0, .int ct, .int fp, .int fk, .int sk])), (p0, .inr (3, [.int (nI pB), .int (nI pS), .int (nI pG), .int (nI pE), .int (nI pC), .int (nI pO)])), (d0, .inr (2, [.ref d1, .int (nI n)])), (d1, .inl (cy 0, 70, .inl f)), (r0, .inr (2, [.ref r1, .int (nI rn)])), (r1, .inl (cy 0, 70, .inl rf))]) [0, 1, 2, 3, 4, 5] rfl
    have hD9 := hD.sub (ws' := [(h0, .inr (5, [.ref p0, .ref d0, .ref r0, .int ct, .int fp, .int fk, .int sk])), (p0, .inr (3, [.int (nI pB), .int (nI pS), .int (nI pG), .int (nI pE), .int (nI pC), .int (nI pO)])), (d0, .inr (2, [.ref d1, .int (nI n)])), (d1, .inl (cy 0, 70, .inl f)), (r0, .inr (2, [.ref r1, .int (nI rn)])), (r1, .inl (cy 0, 70, .inl rf))]) [0, 1, 2, 3, 4, 5] (by decide) rfl
    exact W.vret hx hb hr (fun t ht hW => ⟨⟨(f, n), rfl, Or.inr ⟨hn6, rfl, rfl⟩, by rw [ht]; exact hP9, hD9⟩, hS.F ht⟩) hS.2.2 dX4_collect_21
  · have hn6 : n < 64 := by rw [i32_64] at c_9; exact Nat.not_le.mp fun q => c_9 (nI_le q (by omega))
    refine lv_aload_n hx hb dX4_collect_12 rfl (lv_at hl 0 rfl) ?_
    refine va_get (D := D) (ci := 5) (v := .ref d0) (C := RX4) (T := TX4) (N := 7) hx hb hts iw_X4_collect_X4 hown hK hP 0 rfl rfl 1 (by decide) (hts _ lk_X4_collect_f12) (fun _ h9 => h9) rfl dX4_collect_13 ?_
    refine lv_iload_n hx hb dX4_collect_16 rfl (lv_at hl 1 rfl) ?_
    have hPc := hP.sub (ws' := [(d0, .inr (2, [.ref d1, .int (nI n)])), (d1, .inl (cy 0, 70, .inl f))]) [2, 3] rfl
    have hDc := hD.sub (ws' := [(d0, .inr (2, [.ref d1, .int (nI n)])), (d1, .inl (cy 0, 70, .inl f))]) [2, 3] (by decide) rfl
    have hFc := va_free (wc := [(d0, .inr (2, [.ref d1, .int (nI n)])), (d1, .inl (cy 0, 70, .inl f))]) hD hS hA [2, 3] rfl
    refine va_calli (va_runV (As := [.int x]) (rest := []) ⟨hx, hb, hml, hown, hts⟩ (c_X1_add l D cy s.heap.size d0 d1 f n x (by omega)) (cwV 1 hts gX4_collect_X1_add rfl rfl rfl (by decide +kernel) ⟨Nat.le_of_ble_eq_true rfl, Nat.le_of_ble_eq_true rfl⟩) (pv_V (ci := 2) (q := (RX1, TX1, 2)) hkk hPc hDc rfl rfl rfl) rfl rfl hl.1 rfl (lv_room (Nat.le_of_ble_eq_true rfl)) dX4_collect_17 ⟨Nat.le_of_ble_eq_true rfl, Nat.le_of_ble_eq_true rfl⟩) hS (fun q _ h => hFc q h) hFc (fun r_17 u t H1 locs ht hvm hw hB hz1 hk1 hS => ?_)
    obtain ⟨f2_17, n2_17⟩ := u
    obtain ⟨hP1, hD1⟩ := hB
    rw [ht] at hP1
    try dsimp only at hw hP1 hD1
    obtain ⟨hP, hD⟩ := va_join (wr := [(h0, .inr (5, [.ref p0, .ref d0, .ref r0, .int ct, .int fp, .int fk, .int sk])), (p0, .inr (3, [.int (nI pB), .int (nI pS), .int (nI pG), .int (nI pE), .int (nI pC), .int (nI pO)])), (r0, .inr (2, [.ref r1, .int (nI rn)])), (r1, .inl (cy 0, 70, .inl rf))]) (w1 := [(d0, .inr (2, [.ref d1, .int (nI n2_17)])), (d1, .inl (cy 0, 70, .inl f2_17))]) hP hD [2, 3] [0, 1, 4, 5] rfl rfl (by decide) (by decide) hk1 hFc hP1 hD1
    clear hPc hDc hFc hP1 hD1 hz1 hk1
    generalize H1 = H at hP hS ⊢
    have hP : va_P D vwCl [(h0, .inr (5, [.ref p0, .ref d0, .ref r0, .int ct, .int fp, .int fk, .int sk])), (p0, .inr (3, [.int (nI pB), .int (nI pS), .int (nI pG), .int (nI pE), .int (nI pC), .int (nI pO)])), (r0, .inr (2, [.ref r1, .int (nI rn)])), (r1, .inl (cy 0, 70, .inl rf)), (d0, .inr (2, [.ref d1, .int (nI n2_17)])), (d1, .inl (cy 0, 70, .inl f2_17))] H := hP
    have hD : va_D A [(h0, .inr (5, [.ref p0, .ref d0, .ref r0, .int ct, .int fp, .int fk, .int sk])), (p0, .inr (3, [.int (nI pB), .int (nI pS), .int (nI pG), .int (nI pE), .int (nI pC), .int (nI pO)])), (r0, .inr (2, [.ref r1, .int (nI rn)])), (r1, .inl (cy 0, 70, .inl rf)), (d0, .inr (2, [.ref d1, .int (nI n2_17)])), (d1, .inl (cy 0, 70, .inl f2_17))] := hD
    have hw_17 := hw
    obtain ⟨rfl, rfl, rfl⟩ := oc_add_lt hw_17 (by omega)
    refine lv_pop hx hb dX4_collect_20 rfl ?_
    have hP9 := hP.sub (ws' := [(h0, .inr (5, [.ref p0, .ref d0, .ref r0, .int ct, .int fp, .int fk, .int sk])), (p0, .inr (3, [.int (nI pB), .int (nI pS), .int (nI pG), .int (nI pE), .int (nI pC), .int (nI pO)])), (d0, .inr (2, [.ref d1, .int (nI (n + 1))])), (d1, .inl (cy 0, 70, .inl (upd f n x.toInt8.toInt32))), (r0, .inr (2, [.ref r1, .int (nI rn)])), (r1, .inl (cy 0, 70, .inl rf))]) [0, 1, 4, 5, 2, 3] rfl
    have hD9 := hD.sub (ws' := [(h0, .inr (5, [.ref p0, .ref d0, .ref r0, .int ct, .int fp, .int fk, .int sk])), (p0, .inr (3, [.int (nI pB), .int (nI pS), .int (nI pG), .int (nI pE), .int (nI pC), .int (nI pO)])), (d0, .inr (2, [.ref d1, .int (nI (n + 1))])), (d1, .inl (cy 0, 70, .inl (upd f n x.toInt8.toInt32))), (r0, .inr (2, [.ref r1, .int (nI rn)])), (r1, .inl (cy 0, 70, .inl rf))]) [0, 1, 4, 5, 2, 3] (by decide) rfl
    exact W.vret hx hb hr (fun t ht hW => ⟨⟨(upd f n x.toInt8.toInt32, n + 1), rfl, Or.inl ⟨hn6, rfl, rfl⟩, by rw [ht]; exact hP9, hD9⟩, hS.F ht⟩) hS.2.2 dX4_collect_21

theorem iw_X4_plantFlip_X4 : ∀ w ∈ wsX40, w ∈ wsX4_plantFlip := by decide +kernel
theorem lk_X4_plantFlip_f33 : (.fieldLink RX4 33 "DataGuards$Sender" "flipPlace" "I" : Cond) ∈ wsX4_plantFlip := by decide +kernel
theorem lk_X4_plantFlip_f36 : (.fieldLink RX4 36 "DataGuards$Sender" "flipMask" "I" : Cond) ∈ wsX4_plantFlip := by decide +kernel
set_option maxHeartbeats 4000000 in
set_option maxRecDepth 100000 in
theorem c_X4_plantFlip (l : Launch) (D : va_G) (cy : Nat → ClassId) (sz : Nat) (h0 : Nat) (p0 : Nat) (d0 : Nat) (d1 : Nat) (r0 : Nat) (r1 : Nat) (ct : Int32) (fp : Int32) (fk : Int32) (sk : Int32) (pB : Nat) (pS : Nat) (pG : Nat) (pE : Nat) (pC : Nat) (pO : Nat) (f : Nat → Int32) (n : Nat) (rf : Nat → Int32) (rn : Nat) (x : Int32) (y : Int32)  : Met l yX4_plantFlip wsX4_plantFlip ({ frames := 0, cells := 0, slots := 0, locals := 0 } : Room) (pre1 D cy [.ref h0, .int x, .int y] [(h0, .inr (5, [.ref p0, .ref d0, .ref r0, .int ct, .int fp, .int fk, .int sk])), (p0, .inr (3, [.int (nI pB), .int (nI pS), .int (nI pG), .int (nI pE), .int (nI pC), .int (nI pO)])), (d0, .inr (2, [.ref d1, .int (nI n)])), (d1, .inl (cy 0, 70, .inl f)), (r0, .inr (2, [.ref r1, .int (nI rn)])), (r1, .inl (cy 0, 70, .inl rf))] sz) (va_Qv (fun (u : Unit) => True) (fun u t => va_P D vwCl [(h0, .inr (5, [.ref p0, .ref d0, .ref r0, .int ct, .int x, .int y, .int sk])), (p0, .inr (3, [.int (nI pB), .int (nI pS), .int (nI pG), .int (nI pE), .int (nI pC), .int (nI pO)])), (d0, .inr (2, [.ref d1, .int (nI n)])), (d1, .inl (cy 0, 70, .inl f)), (r0, .inr (2, [.ref r1, .int (nI rn)])), (r1, .inl (cy 0, 70, .inl rf))] t.heap ∧ va_D (va_A [(h0, .inr (5, [.ref p0, .ref d0, .ref r0, .int ct, .int fp, .int fk, .int sk])), (p0, .inr (3, [.int (nI pB), .int (nI pS), .int (nI pG), .int (nI pE), .int (nI pC), .int (nI pO)])), (d0, .inr (2, [.ref d1, .int (nI n)])), (d1, .inl (cy 0, 70, .inl f)), (r0, .inr (2, [.ref r1, .int (nI rn)])), (r1, .inl (cy 0, 70, .inl rf))] sz) [(h0, .inr (5, [.ref p0, .ref d0, .ref r0, .int ct, .int x, .int y, .int sk])), (p0, .inr (3, [.int (nI pB), .int (nI pS), .int (nI pG), .int (nI pE), .int (nI pC), .int (nI pO)])), (d0, .inr (2, [.ref d1, .int (nI n)])), (d1, .inl (cy 0, 70, .inl f)), (r0, .inr (2, [.ref r1, .int (nI rn)])), (r1, .inl (cy 0, 70, .inl rf))]) (va_A [(h0, .inr (5, [.ref p0, .ref d0, .ref r0, .int ct, .int fp, .int fk, .int sk])), (p0, .inr (3, [.int (nI pB), .int (nI pS), .int (nI pG), .int (nI pE), .int (nI pC), .int (nI pO)])), (d0, .inr (2, [.ref d1, .int (nI n)])), (d1, .inl (cy 0, 70, .inl f)), (r0, .inr (2, [.ref r1, .int (nI rn)])), (r1, .inl (cy 0, 70, .inl rf))] sz)) 0 0 (va_A [(h0, .inr (5, [.ref p0, .ref d0, .ref r0, .int ct, .int fp, .int fk, .int sk])), (p0, .inr (3, [.int (nI pB), .int (nI pS), .int (nI pG), .int (nI pE), .int (nI pC), .int (nI pO)])), (d0, .inr (2, [.ref d1, .int (nI n)])), (d1, .inl (cy 0, 70, .inl f)), (r0, .inr (2, [.ref r1, .int (nI rn)])), (r1, .inl (cy 0, 70, .inl rf))] sz) := by
  refine Met.ofW (cc := cX4_plantFlip) (maxL := 3) (ret := none) (by decide) rfl ?_
  intro p e s m args below meth c s₁ B hml hv
  obtain ⟨rfl, hsz, hP, hkk, hD0⟩ := hv
  have hx := B.exec
  have hb := B.bytes
  have hr := B.returns
  have hts := atoms_spec (ws := wsX4_plantFlip) B.pre
  have hown : s.vm.findClass RX4 = some m.cls := findClass_of_methodNamed B.named
  have hlocks := B.notSynchronized
  have hin : meth.name = _ := (name_of_methodNamed B.named B.method).1
  have hK := hkk.1
  subst hsz
  have hD := hD0.self (sz := s.heap.size)
  generalize hAe : va_A [(h0, .inr (5, [.ref p0, .ref d0, .ref r0, .int ct, .int fp, .int fk, .int sk])), (p0, .inr (3, [.int (nI pB), .int (nI pS), .int (nI pG), .int (nI pE), .int (nI pC), .int (nI pO)])), (d0, .inr (2, [.ref d1, .int (nI n)])), (d1, .inl (cy 0, 70, .inl f)), (r0, .inr (2, [.ref r1, .int (nI rn)])), (r1, .inl (cy 0, 70, .inl rf))] s.heap.size = A at hD ⊢
  have hA : ∀ q : Nat, s.heap.size ≤ q → A q := fun q h => by rw [← hAe]; exact Or.inr h
  have hS : va_S A s.heap s.heap [] := va_S.rf
  have hP : va_P D vwCl [(h0, .inr (5, [.ref p0, .ref d0, .ref r0, .int ct, .int fp, .int fk, .int sk])), (p0, .inr (3, [.int (nI pB), .int (nI pS), .int (nI pG), .int (nI pE), .int (nI pC), .int (nI pO)])), (d0, .inr (2, [.ref d1, .int (nI n)])), (d1, .inl (cy 0, 70, .inl f)), (r0, .inr (2, [.ref r1, .int (nI rn)])), (r1, .inl (cy 0, 70, .inl rf))] s.heap := hP
  have hl := lv_entry ([.ref h0, .int x, .int y]) (n := 3) (Nat.le_of_ble_eq_true rfl)
  rw [lg_entry_eq]
  generalize (lg_sl ([.ref h0, .int x, .int y]) ++ List.replicate (3 - (lg_sl ([.ref h0, .int x, .int y])).length) Slot.unset).toArray = ls at hl ⊢
  have hl : lv_has ls 3 [(0, .ref h0), (1, .int x), (2, .int y)] := hl
  refine lv_aload_n hx hb dX4_plantFlip_0 rfl (lv_at hl 0 rfl) ?_
  refine lv_iload_n hx hb dX4_plantFlip_1 rfl (lv_at hl 1 rfl) ?_
  refine va_put (D := D) (ci := 5) (v := .int x) (ty := .int) (C := RX4) (T := TX4) (N := 7) hx hb hts iw_X4_plantFlip_X4 tyX4 tyX4_ok nmX4 hown hK hP hD hS 0 rfl rfl 4 (by decide) (hts _ lk_X4_plantFlip_f33) (fun _ h9 => h9) rfl (by decide +kernel) rfl rfl (Nat.le_of_ble_eq_true rfl) dX4_plantFlip_2 (fun H locs hP hD hS => ?_)
  have hP : va_P D vwCl [(h0, .inr (5, [.ref p0, .ref d0, .ref r0, .int ct, .int x, .int fk, .int sk])), (p0, .inr (3, [.int (nI pB), .int (nI pS), .int (nI pG), .int (nI pE), .int (nI pC), .int (nI pO)])), (d0, .inr (2, [.ref d1, .int (nI n)])), (d1, .inl (cy 0, 70, .inl f)), (r0, .inr (2, [.ref r1, .int (nI rn)])), (r1, .inl (cy 0, 70, .inl rf))] H := hP
  have hD : va_D A [(h0, .inr (5, [.ref p0, .ref d0, .ref r0, .int ct, .int x, .int fk, .int sk])), (p0, .inr (3, [.int (nI pB), .int (nI pS), .int (nI pG), .int (nI pE), .int (nI pC), .int (nI pO)])), (d0, .inr (2, [.ref d1, .int (nI n)])), (d1, .inl (cy 0, 70, .inl f)), (r0, .inr (2, [.ref r1, .int (nI rn)])), (r1, .inl (cy 0, 70, .inl rf))] := hD
  refine lv_aload_n hx hb dX4_plantFlip_5 rfl (lv_at hl 0 rfl) ?_
  refine lv_iload_n hx hb dX4_plantFlip_6 rfl (lv_at hl 2 rfl) ?_
  refine va_put (D := D) (ci := 5) (v := .int y) (ty := .int) (C := RX4) (T := TX4) (N := 7) hx hb hts iw_X4_plantFlip_X4 tyX4 tyX4_ok nmX4 hown hK hP hD hS 0 rfl rfl 5 (by decide) (hts _ lk_X4_plantFlip_f36) (fun _ h9 => h9) rfl (by decide +kernel) rfl rfl (Nat.le_of_ble_eq_true rfl) dX4_plantFlip_7 (fun H locs hP hD hS => ?_)
  have hP : va_P D vwCl [(h0, .inr (5, [.ref p0, .ref d0, .ref r0, .int ct, .int x, .int y, .int sk])), (p0, .inr (3, [.int (nI pB), .int (nI pS), .int (nI pG), .int (nI pE), .int (nI pC), .int (nI pO)])), (d0, .inr (2, [.ref d1, .int (nI n)])), (d1, .inl (cy 0, 70, .inl f)), (r0, .inr (2, [.ref r1, .int (nI rn)])), (r1, .inl (cy 0, 70, .inl rf))] H := hP
  have hD : va_D A [(h0, .inr (5, [.ref p0, .ref d0, .ref r0, .int ct, .int x, .int y, .int sk])), (p0, .inr (3, [.int (nI pB), .int (nI pS), .int (nI pG), .int (nI pE), .int (nI pC), .int (nI pO)])), (d0, .inr (2, [.ref d1, .int (nI n)])), (d1, .inl (cy 0, 70, .inl f)), (r0, .inr (2, [.ref r1, .int (nI rn)])), (r1, .inl (cy 0, 70, .inl rf))] := hD
  have hP9 := hP.sub (ws' := [(h0, .inr (5, [.ref p0, .ref d0, .ref r0, .int ct, .int x, .int y, .int sk])), (p0, .inr (3, [.int (nI pB), .int (nI pS), .int (nI pG), .int (nI pE), .int (nI pC), .int (nI pO)])), (d0, .inr (2, [.ref d1, .int (nI n)])), (d1, .inl (cy 0, 70, .inl f)), (r0, .inr (2, [.ref r1, .int (nI rn)])), (r1, .inl (cy 0, 70, .inl rf))]) [0, 1, 2, 3, 4, 5] rfl
  have hD9 := hD.sub (ws' := [(h0, .inr (5, [.ref p0, .ref d0, .ref r0, .int ct, .int x, .int y, .int sk])), (p0, .inr (3, [.int (nI pB), .int (nI pS), .int (nI pG), .int (nI pE), .int (nI pC), .int (nI pO)])), (d0, .inr (2, [.ref d1, .int (nI n)])), (d1, .inl (cy 0, 70, .inl f)), (r0, .inr (2, [.ref r1, .int (nI rn)])), (r1, .inl (cy 0, 70, .inl rf))]) [0, 1, 2, 3, 4, 5] (by decide) rfl
  exact W.vret hx hb hr (fun t ht hW => ⟨⟨(), rfl, trivial, by rw [ht]; exact hP9, hD9⟩, hS.F ht⟩) hS.2.2 dX4_plantFlip_10

theorem iw_X4_plantSkip_X4 : ∀ w ∈ wsX40, w ∈ wsX4_plantSkip := by decide +kernel
theorem lk_X4_plantSkip_f39 : (.fieldLink RX4 39 "DataGuards$Sender" "skip" "I" : Cond) ∈ wsX4_plantSkip := by decide +kernel
set_option maxHeartbeats 4000000 in
set_option maxRecDepth 100000 in
theorem c_X4_plantSkip (l : Launch) (D : va_G) (cy : Nat → ClassId) (sz : Nat) (h0 : Nat) (p0 : Nat) (d0 : Nat) (d1 : Nat) (r0 : Nat) (r1 : Nat) (ct : Int32) (fp : Int32) (fk : Int32) (sk : Int32) (pB : Nat) (pS : Nat) (pG : Nat) (pE : Nat) (pC : Nat) (pO : Nat) (f : Nat → Int32) (n : Nat) (rf : Nat → Int32) (rn : Nat) (x : Int32)  : Met l yX4_plantSkip wsX4_plantSkip ({ frames := 0, cells := 0, slots := 0, locals := 0 } : Room) (pre1 D cy [.ref h0, .int x] [(h0, .inr (5, [.ref p0, .ref d0, .ref r0, .int ct, .int fp, .int fk, .int sk])), (p0, .inr (3, [.int (nI pB), .int (nI pS), .int (nI pG), .int (nI pE), .int (nI pC), .int (nI pO)])), (d0, .inr (2, [.ref d1, .int (nI n)])), (d1, .inl (cy 0, 70, .inl f)), (r0, .inr (2, [.ref r1, .int (nI rn)])), (r1, .inl (cy 0, 70, .inl rf))] sz) (va_Qv (fun (u : Unit) => True) (fun u t => va_P D vwCl [(h0, .inr (5, [.ref p0, .ref d0, .ref r0, .int ct, .int fp, .int fk, .int x])), (p0, .inr (3, [.int (nI pB), .int (nI pS), .int (nI pG), .int (nI pE), .int (nI pC), .int (nI pO)])), (d0, .inr (2, [.ref d1, .int (nI n)])), (d1, .inl (cy 0, 70, .inl f)), (r0, .inr (2, [.ref r1, .int (nI rn)])), (r1, .inl (cy 0, 70, .inl rf))] t.heap ∧ va_D (va_A [(h0, .inr (5, [.ref p0, .ref d0, .ref r0, .int ct, .int fp, .int fk, .int sk])), (p0, .inr (3, [.int (nI pB), .int (nI pS), .int (nI pG), .int (nI pE), .int (nI pC), .int (nI pO)])), (d0, .inr (2, [.ref d1, .int (nI n)])), (d1, .inl (cy 0, 70, .inl f)), (r0, .inr (2, [.ref r1, .int (nI rn)])), (r1, .inl (cy 0, 70, .inl rf))] sz) [(h0, .inr (5, [.ref p0, .ref d0, .ref r0, .int ct, .int fp, .int fk, .int x])), (p0, .inr (3, [.int (nI pB), .int (nI pS), .int (nI pG), .int (nI pE), .int (nI pC), .int (nI pO)])), (d0, .inr (2, [.ref d1, .int (nI n)])), (d1, .inl (cy 0, 70, .inl f)), (r0, .inr (2, [.ref r1, .int (nI rn)])), (r1, .inl (cy 0, 70, .inl rf))]) (va_A [(h0, .inr (5, [.ref p0, .ref d0, .ref r0, .int ct, .int fp, .int fk, .int sk])), (p0, .inr (3, [.int (nI pB), .int (nI pS), .int (nI pG), .int (nI pE), .int (nI pC), .int (nI pO)])), (d0, .inr (2, [.ref d1, .int (nI n)])), (d1, .inl (cy 0, 70, .inl f)), (r0, .inr (2, [.ref r1, .int (nI rn)])), (r1, .inl (cy 0, 70, .inl rf))] sz)) 0 0 (va_A [(h0, .inr (5, [.ref p0, .ref d0, .ref r0, .int ct, .int fp, .int fk, .int sk])), (p0, .inr (3, [.int (nI pB), .int (nI pS), .int (nI pG), .int (nI pE), .int (nI pC), .int (nI pO)])), (d0, .inr (2, [.ref d1, .int (nI n)])), (d1, .inl (cy 0, 70, .inl f)), (r0, .inr (2, [.ref r1, .int (nI rn)])), (r1, .inl (cy 0, 70, .inl rf))] sz) := by
  refine Met.ofW (cc := cX4_plantSkip) (maxL := 2) (ret := none) (by decide) rfl ?_
  intro p e s m args below meth c s₁ B hml hv
  obtain ⟨rfl, hsz, hP, hkk, hD0⟩ := hv
  have hx := B.exec
  have hb := B.bytes
  have hr := B.returns
  have hts := atoms_spec (ws := wsX4_plantSkip) B.pre
  have hown : s.vm.findClass RX4 = some m.cls := findClass_of_methodNamed B.named
  have hlocks := B.notSynchronized
  have hin : meth.name = _ := (name_of_methodNamed B.named B.method).1
  have hK := hkk.1
  subst hsz
  have hD := hD0.self (sz := s.heap.size)
  generalize hAe : va_A [(h0, .inr (5, [.ref p0, .ref d0, .ref r0, .int ct, .int fp, .int fk, .int sk])), (p0, .inr (3, [.int (nI pB), .int (nI pS), .int (nI pG), .int (nI pE), .int (nI pC), .int (nI pO)])), (d0, .inr (2, [.ref d1, .int (nI n)])), (d1, .inl (cy 0, 70, .inl f)), (r0, .inr (2, [.ref r1, .int (nI rn)])), (r1, .inl (cy 0, 70, .inl rf))] s.heap.size = A at hD ⊢
  have hA : ∀ q : Nat, s.heap.size ≤ q → A q := fun q h => by rw [← hAe]; exact Or.inr h
  have hS : va_S A s.heap s.heap [] := va_S.rf
  have hP : va_P D vwCl [(h0, .inr (5, [.ref p0, .ref d0, .ref r0, .int ct, .int fp, .int fk, .int sk])), (p0, .inr (3, [.int (nI pB), .int (nI pS), .int (nI pG), .int (nI pE), .int (nI pC), .int (nI pO)])), (d0, .inr (2, [.ref d1, .int (nI n)])), (d1, .inl (cy 0, 70, .inl f)), (r0, .inr (2, [.ref r1, .int (nI rn)])), (r1, .inl (cy 0, 70, .inl rf))] s.heap := hP
  have hl := lv_entry ([.ref h0, .int x]) (n := 2) (Nat.le_of_ble_eq_true rfl)
  rw [lg_entry_eq]
  generalize (lg_sl ([.ref h0, .int x]) ++ List.replicate (2 - (lg_sl ([.ref h0, .int x])).length) Slot.unset).toArray = ls at hl ⊢
  have hl : lv_has ls 2 [(0, .ref h0), (1, .int x)] := hl
  refine lv_aload_n hx hb dX4_plantSkip_0 rfl (lv_at hl 0 rfl) ?_
  refine lv_iload_n hx hb dX4_plantSkip_1 rfl (lv_at hl 1 rfl) ?_
  refine va_put (D := D) (ci := 5) (v := .int x) (ty := .int) (C := RX4) (T := TX4) (N := 7) hx hb hts iw_X4_plantSkip_X4 tyX4 tyX4_ok nmX4 hown hK hP hD hS 0 rfl rfl 6 (by decide) (hts _ lk_X4_plantSkip_f39) (fun _ h9 => h9) rfl (by decide +kernel) rfl rfl (Nat.le_of_ble_eq_true rfl) dX4_plantSkip_2 (fun H locs hP hD hS => ?_)
  have hP : va_P D vwCl [(h0, .inr (5, [.ref p0, .ref d0, .ref r0, .int ct, .int fp, .int fk, .int x])), (p0, .inr (3, [.int (nI pB), .int (nI pS), .int (nI pG), .int (nI pE), .int (nI pC), .int (nI pO)])), (d0, .inr (2, [.ref d1, .int (nI n)])), (d1, .inl (cy 0, 70, .inl f)), (r0, .inr (2, [.ref r1, .int (nI rn)])), (r1, .inl (cy 0, 70, .inl rf))] H := hP
  have hD : va_D A [(h0, .inr (5, [.ref p0, .ref d0, .ref r0, .int ct, .int fp, .int fk, .int x])), (p0, .inr (3, [.int (nI pB), .int (nI pS), .int (nI pG), .int (nI pE), .int (nI pC), .int (nI pO)])), (d0, .inr (2, [.ref d1, .int (nI n)])), (d1, .inl (cy 0, 70, .inl f)), (r0, .inr (2, [.ref r1, .int (nI rn)])), (r1, .inl (cy 0, 70, .inl rf))] := hD
  have hP9 := hP.sub (ws' := [(h0, .inr (5, [.ref p0, .ref d0, .ref r0, .int ct, .int fp, .int fk, .int x])), (p0, .inr (3, [.int (nI pB), .int (nI pS), .int (nI pG), .int (nI pE), .int (nI pC), .int (nI pO)])), (d0, .inr (2, [.ref d1, .int (nI n)])), (d1, .inl (cy 0, 70, .inl f)), (r0, .inr (2, [.ref r1, .int (nI rn)])), (r1, .inl (cy 0, 70, .inl rf))]) [0, 1, 2, 3, 4, 5] rfl
  have hD9 := hD.sub (ws' := [(h0, .inr (5, [.ref p0, .ref d0, .ref r0, .int ct, .int fp, .int fk, .int x])), (p0, .inr (3, [.int (nI pB), .int (nI pS), .int (nI pG), .int (nI pE), .int (nI pC), .int (nI pO)])), (d0, .inr (2, [.ref d1, .int (nI n)])), (d1, .inl (cy 0, 70, .inl f)), (r0, .inr (2, [.ref r1, .int (nI rn)])), (r1, .inl (cy 0, 70, .inl rf))]) [0, 1, 2, 3, 4, 5] (by decide) rfl
  exact W.vret hx hb hr (fun t ht hW => ⟨⟨(), rfl, trivial, by rw [ht]; exact hP9, hD9⟩, hS.F ht⟩) hS.2.2 dX4_plantSkip_5

theorem lk_X4_init_m3 : (.methodLink RX4 3 objectInit : Cond) ∈ wsX4_init := by decide +kernel
theorem lk_X4_init_oi : (.instanceMethod objectInit : Cond) ∈ wsX4_init := by decide +kernel
theorem lk_X4_init_oc : (.code objectInit ⟨#[0xb1]⟩ 1 none : Cond) ∈ wsX4_init := by decide +kernel
theorem iw_X4_init_X1 : ∀ w ∈ wsX10, w ∈ wsX4_init := by decide +kernel
theorem lk_X4_init_n9 : (.classLink RX4 9 RX1 : Cond) ∈ wsX4_init := by decide +kernel
theorem lk_X4_init_niX1 : (.instantiable RX1 2 : Cond) ∈ wsX4_init := by decide +kernel
theorem lk_X4_init_iniX1 : (.initialized RX1 : Cond) ∈ wsX4_init := by decide +kernel
theorem lk_X4_init_imyX1_init : (.instanceMethod yX1_init : Cond) ∈ wsX4_init := by decide +kernel
theorem iw_X4_init_X4 : ∀ w ∈ wsX40, w ∈ wsX4_init := by decide +kernel
theorem lk_X4_init_f12 : (.fieldLink RX4 12 "DataGuards$Sender" "data" "LDataGuards$Octets;" : Cond) ∈ wsX4_init := by decide +kernel
theorem lk_X4_init_f18 : (.fieldLink RX4 18 "DataGuards$Sender" "row" "LDataGuards$Octets;" : Cond) ∈ wsX4_init := by decide +kernel
theorem lk_X4_init_f21 : (.fieldLink RX4 21 "DataGuards$Sender" "profile" "LDataGuards$Profile;" : Cond) ∈ wsX4_init := by decide +kernel
set_option maxHeartbeats 4000000 in
set_option maxRecDepth 100000 in
theorem c_X4_init (l : Launch) (D : va_G) (cy : Nat → ClassId) (sz : Nat) (h0 : Nat) (p0 : Nat)  : Met l yX4_init wsX4_init ({ frames := 2, cells := 4, slots := 144, locals := 40 } : Room) (pre1 D cy [.ref h0, .ref p0] [(h0, .inr (5, [.null, .null, .null, .int 0, .int 0, .int 0, .int 0]))] sz) (va_Qv (fun (u : (Nat) × (Nat) × (Nat) × (Nat)) => True) (fun u t => va_P D vwCl [(h0, .inr (5, [.ref p0, .ref u.1, .ref u.2.2.1, .int 0, .int 0, .int 0, .int 0])), (u.1, .inr (2, [.ref u.2.1, .int 0])), (u.2.1, .inl (cy 0, 70, .inl (fun _ => 0))), (u.2.2.1, .inr (2, [.ref u.2.2.2, .int 0])), (u.2.2.2, .inl (cy 0, 70, .inl (fun _ => 0)))] t.heap ∧ va_D (va_A [(h0, .inr (5, [.null, .null, .null, .int 0, .int 0, .int 0, .int 0]))] sz) [(h0, .inr (5, [.ref p0, .ref u.1, .ref u.2.2.1, .int 0, .int 0, .int 0, .int 0])), (u.1, .inr (2, [.ref u.2.1, .int 0])), (u.2.1, .inl (cy 0, 70, .inl (fun _ => 0))), (u.2.2.1, .inr (2, [.ref u.2.2.2, .int 0])), (u.2.2.2, .inl (cy 0, 70, .inl (fun _ => 0)))]) (va_A [(h0, .inr (5, [.null, .null, .null, .int 0, .int 0, .int 0, .int 0]))] sz)) 4 144 (va_A [(h0, .inr (5, [.null, .null, .null, .int 0, .int 0, .int 0, .int 0]))] sz) := by
  refine Met.ofW (cc := cX4_init) (maxL := 2) (ret := none) (by decide) rfl ?_
  intro p e s m args below meth c s₁ B hml hv
  obtain ⟨rfl, hsz, hP, hkk, hD0⟩ := hv
  have hx := B.exec
  have hb := B.bytes
  have hr := B.returns
  have hts := atoms_spec (ws := wsX4_init) B.pre
  have hown : s.vm.findClass RX4 = some m.cls := findClass_of_methodNamed B.named
  have hlocks := B.notSynchronized
  have hin : meth.name = _ := (name_of_methodNamed B.named B.method).1
  have hK := hkk.1
  subst hsz
  have hD := hD0.self (sz := s.heap.size)
  generalize hAe : va_A [(h0, .inr (5, [.null, .null, .null, .int 0, .int 0, .int 0, .int 0]))] s.heap.size = A at hD ⊢
  have hA : ∀ q : Nat, s.heap.size ≤ q → A q := fun q h => by rw [← hAe]; exact Or.inr h
  have hS : va_S A s.heap s.heap [] := va_S.rf
  have hP : va_P D vwCl [(h0, .inr (5, [.null, .null, .null, .int 0, .int 0, .int 0, .int 0]))] s.heap := hP
  have hl := lv_entry ([.ref h0, .ref p0]) (n := 2) (Nat.le_of_ble_eq_true rfl)
  rw [lg_entry_eq]
  generalize (lg_sl ([.ref h0, .ref p0]) ++ List.replicate (2 - (lg_sl ([.ref h0, .ref p0])).length) Slot.unset).toArray = ls at hl ⊢
  have hl : lv_has ls 2 [(0, .ref h0), (1, .ref p0)] := hl
  refine lv_aload_n hx hb dX4_init_0 rfl (lv_at hl 0 rfl) ?_
  refine W.objInit hx hb hown (hts _ lk_X4_init_m3) (hts _ lk_X4_init_oi) (hts _ lk_X4_init_oc) rfl (by rw [hml]; exact hl.1) rfl dX4_init_1 (Nat.le_of_ble_eq_true rfl) (Nat.le_of_ble_eq_true rfl) ?_
  refine W.eq (g2 := F0 m 4 ls []) rfl ?_
  refine lv_aload_n hx hb dX4_init_4 rfl (lv_at hl 0 rfl) ?_
  refine va_new (ci := 2) (fs := [.null, .int 0]) (C := RX1) (T := TX1) (N := 2) hx hb hts iw_X4_init_X1 tyX1 tyX1_ok hown (hts _ lk_X4_init_n9) (hts _ lk_X4_init_niX1) (hts _ lk_X4_init_iniX1) hK hP hD hS hA rfl (fun j hj => by rcases (show j = 0 ∨ j = 1 by omega) with rfl | rfl <;> rfl) (Nat.le_of_ble_eq_true rfl) (Nat.le_of_ble_eq_true rfl) dX4_init_5 (fun q_5 H hP hD hS => ?_)
  have hP : va_P D vwCl [(h0, .inr (5, [.null, .null, .null, .int 0, .int 0, .int 0, .int 0])), (q_5, .inr (2, [.null, .int 0]))] H := hP
  have hD : va_D A [(h0, .inr (5, [.null, .null, .null, .int 0, .int 0, .int 0, .int 0])), (q_5, .inr (2, [.null, .int 0]))] := hD
  refine W.widen (k := 1) (n := 2) (by decide) (by decide) ?_
  refine lv_dup hx hb dX4_init_8 rfl ?_
  have hPc := hP.sub (ws' := [(q_5, .inr (2, [.null, .int 0]))]) [1] rfl
  have hDc := hD.sub (ws' := [(q_5, .inr (2, [.null, .int 0]))]) [1] (by decide) rfl
  have hFc := va_free (wc := [(q_5, .inr (2, [.null, .int 0]))]) hD hS hA [1] rfl
  refine va_callv (va_runIN (As := []) (rest := [.ref q_5, .ref h0]) ⟨hx, hb, hml, hown, hts⟩ (c_X1_init l D cy H.size q_5 ) ⟨va_cnB 0 hts gX4_init_X1_init_n11 rfl rfl rfl (nw_get 9 rfl hkk.2) (hts _ lk_X4_init_iniX1) (by decide +kernel) ⟨Nat.le_of_ble_eq_true rfl, Nat.le_of_ble_eq_true rfl⟩, rfl, (hts _ lk_X4_init_imyX1_init)⟩ (pv_S hkk hPc hDc rfl) rfl rfl hl.1 rfl (lv_room (Nat.le_of_ble_eq_true rfl)) dX4_init_9 ⟨Nat.le_of_ble_eq_true rfl, Nat.le_of_ble_eq_true rfl⟩) hS (fun q _ h => hFc q h) hFc (fun u t H1 locs ht hvm hw hB hz1 hk1 hS => ?_)
  obtain ⟨h1_9, rfl⟩ : ∃ z, z = u := ⟨_, rfl⟩
  obtain ⟨hP1, hD1⟩ := hB
  rw [ht] at hP1
  try dsimp only at hw hP1 hD1
  obtain ⟨hP, hD⟩ := va_join (wr := [(h0, .inr (5, [.null, .null, .null, .int 0, .int 0, .int 0, .int 0]))]) (w1 := [(q_5, .inr (2, [.ref h1_9, .int 0])), (h1_9, .inl (cy 0, 70, .inl (fun _ => 0)))]) hP hD [1] [0] rfl rfl (by decide) (by decide) hk1 hFc hP1 hD1
  clear hPc hDc hFc hP1 hD1 hz1 hk1
  generalize H1 = H at hP hS ⊢
  have hP : va_P D vwCl [(h0, .inr (5, [.null, .null, .null, .int 0, .int 0, .int 0, .int 0])), (q_5, .inr (2, [.ref h1_9, .int 0])), (h1_9, .inl (cy 0, 70, .inl (fun _ => 0)))] H := hP
  have hD : va_D A [(h0, .inr (5, [.null, .null, .null, .int 0, .int 0, .int 0, .int 0])), (q_5, .inr (2, [.ref h1_9, .int 0])), (h1_9, .inl (cy 0, 70, .inl (fun _ => 0)))] := hD
  refine W.widen (k := 2) (n := 72) (by decide) (by decide) ?_
  have hw_9 := hw
  refine va_putF (D := D) (ci := 5) (v := .ref q_5) (ty := (.object "DataGuards$Octets")) (C := RX4) (T := TX4) (N := 7) hx hb hts iw_X4_init_X4 tyX4 tyX4_ok nmX4 hown hK hP hD hS 0 rfl rfl 1 (by decide) (hts _ lk_X4_init_f12) (fun _ h9 => h9) rfl hin rfl (by decide +kernel) rfl rfl (Nat.le_of_ble_eq_true rfl) dX4_init_12 (fun H locs hP hD hS => ?_)
  have hP : va_P D vwCl [(h0, .inr (5, [.null, .ref q_5, .null, .int 0, .int 0, .int 0, .int 0])), (q_5, .inr (2, [.ref h1_9, .int 0])), (h1_9, .inl (cy 0, 70, .inl (fun _ => 0)))] H := hP
  have hD : va_D A [(h0, .inr (5, [.null, .ref q_5, .null, .int 0, .int 0, .int 0, .int 0])), (q_5, .inr (2, [.ref h1_9, .int 0])), (h1_9, .inl (cy 0, 70, .inl (fun _ => 0)))] := hD
  refine lv_aload_n hx hb dX4_init_15 rfl (lv_at hl 0 rfl) ?_
  refine va_new (ci := 2) (fs := [.null, .int 0]) (C := RX1) (T := TX1) (N := 2) hx hb hts iw_X4_init_X1 tyX1 tyX1_ok hown (hts _ lk_X4_init_n9) (hts _ lk_X4_init_niX1) (hts _ lk_X4_init_iniX1) hK hP hD hS hA rfl (fun j hj => by rcases (show j = 0 ∨ j = 1 by omega) with rfl | rfl <;> rfl) (Nat.le_of_ble_eq_true rfl) (Nat.le_of_ble_eq_true rfl) dX4_init_16 (fun q_16 H hP hD hS => ?_)
  have hP : va_P D vwCl [(h0, .inr (5, [.null, .ref q_5, .null, .int 0, .int 0, .int 0, .int 0])), (q_5, .inr (2, [.ref h1_9, .int 0])), (h1_9, .inl (cy 0, 70, .inl (fun _ => 0))), (q_16, .inr (2, [.null, .int 0]))] H := hP
  have hD : va_D A [(h0, .inr (5, [.null, .ref q_5, .null, .int 0, .int 0, .int 0, .int 0])), (q_5, .inr (2, [.ref h1_9, .int 0])), (h1_9, .inl (cy 0, 70, .inl (fun _ => 0))), (q_16, .inr (2, [.null, .int 0]))] := hD
  refine W.widen (k := 3) (n := 74) (by decide) (by decide) ?_
  refine lv_dup hx hb dX4_init_19 rfl ?_
  have hPc := hP.sub (ws' := [(q_16, .inr (2, [.null, .int 0]))]) [3] rfl
  have hDc := hD.sub (ws' := [(q_16, .inr (2, [.null, .int 0]))]) [3] (by decide) rfl
  have hFc := va_free (wc := [(q_16, .inr (2, [.null, .int 0]))]) hD hS hA [3] rfl
  refine va_callv (va_runIN (As := []) (rest := [.ref q_16, .ref h0]) ⟨hx, hb, hml, hown, hts⟩ (c_X1_init l D cy H.size q_16 ) ⟨va_cnB 0 hts gX4_init_X1_init_n11 rfl rfl rfl (nw_get 9 rfl hkk.2) (hts _ lk_X4_init_iniX1) (by decide +kernel) ⟨Nat.le_of_ble_eq_true rfl, Nat.le_of_ble_eq_true rfl⟩, rfl, (hts _ lk_X4_init_imyX1_init)⟩ (pv_S hkk hPc hDc rfl) rfl rfl hl.1 rfl (lv_room (Nat.le_of_ble_eq_true rfl)) dX4_init_20 ⟨Nat.le_of_ble_eq_true rfl, Nat.le_of_ble_eq_true rfl⟩) hS (fun q _ h => hFc q h) hFc (fun u t H1 locs ht hvm hw hB hz1 hk1 hS => ?_)
  obtain ⟨h1_20, rfl⟩ : ∃ z, z = u := ⟨_, rfl⟩
  obtain ⟨hP1, hD1⟩ := hB
  rw [ht] at hP1
  try dsimp only at hw hP1 hD1
  obtain ⟨hP, hD⟩ := va_join (wr := [(h0, .inr (5, [.null, .ref q_5, .null, .int 0, .int 0, .int 0, .int 0])), (q_5, .inr (2, [.ref h1_9, .int 0])), (h1_9, .inl (cy 0, 70, .inl (fun _ => 0)))]) (w1 := [(q_16, .inr (2, [.ref h1_20, .int 0])), (h1_20, .inl (cy 0, 70, .inl (fun _ => 0)))]) hP hD [3] [0, 1, 2] rfl rfl (by decide) (by decide) hk1 hFc hP1 hD1
  clear hPc hDc hFc hP1 hD1 hz1 hk1
  generalize H1 = H at hP hS ⊢
  have hP : va_P D vwCl [(h0, .inr (5, [.null, .ref q_5, .null, .int 0, .int 0, .int 0, .int 0])), (q_5, .inr (2, [.ref h1_9, .int 0])), (h1_9, .inl (cy 0, 70, .inl (fun _ => 0))), (q_16, .inr (2, [.ref h1_20, .int 0])), (h1_20, .inl (cy 0, 70, .inl (fun _ => 0)))] H := hP
  have hD : va_D A [(h0, .inr (5, [.null, .ref q_5, .null, .int 0, .int 0, .int 0, .int 0])), (q_5, .inr (2, [.ref h1_9, .int 0])), (h1_9, .inl (cy 0, 70, .inl (fun _ => 0))), (q_16, .inr (2, [.ref h1_20, .int 0])), (h1_20, .inl (cy 0, 70, .inl (fun _ => 0)))] := hD
  refine W.widen (k := 4) (n := 144) (by decide) (by decide) ?_
  have hw_20 := hw
  refine va_putF (D := D) (ci := 5) (v := .ref q_16) (ty := (.object "DataGuards$Octets")) (C := RX4) (T := TX4) (N := 7) hx hb hts iw_X4_init_X4 tyX4 tyX4_ok nmX4 hown hK hP hD hS 0 rfl rfl 2 (by decide) (hts _ lk_X4_init_f18) (fun _ h9 => h9) rfl hin rfl (by decide +kernel) rfl rfl (Nat.le_of_ble_eq_true rfl) dX4_init_23 (fun H locs hP hD hS => ?_)
  have hP : va_P D vwCl [(h0, .inr (5, [.null, .ref q_5, .ref q_16, .int 0, .int 0, .int 0, .int 0])), (q_5, .inr (2, [.ref h1_9, .int 0])), (h1_9, .inl (cy 0, 70, .inl (fun _ => 0))), (q_16, .inr (2, [.ref h1_20, .int 0])), (h1_20, .inl (cy 0, 70, .inl (fun _ => 0)))] H := hP
  have hD : va_D A [(h0, .inr (5, [.null, .ref q_5, .ref q_16, .int 0, .int 0, .int 0, .int 0])), (q_5, .inr (2, [.ref h1_9, .int 0])), (h1_9, .inl (cy 0, 70, .inl (fun _ => 0))), (q_16, .inr (2, [.ref h1_20, .int 0])), (h1_20, .inl (cy 0, 70, .inl (fun _ => 0)))] := hD
  refine lv_aload_n hx hb dX4_init_26 rfl (lv_at hl 0 rfl) ?_
  refine lv_aload_n hx hb dX4_init_27 rfl (lv_at hl 1 rfl) ?_
  refine va_putF (D := D) (ci := 5) (v := .ref p0) (ty := (.object "DataGuards$Profile")) (C := RX4) (T := TX4) (N := 7) hx hb hts iw_X4_init_X4 tyX4 tyX4_ok nmX4 hown hK hP hD hS 0 rfl rfl 0 (by decide) (hts _ lk_X4_init_f21) (fun _ h9 => h9) rfl hin rfl (by decide +kernel) rfl rfl (Nat.le_of_ble_eq_true rfl) dX4_init_28 (fun H locs hP hD hS => ?_)
  have hP : va_P D vwCl [(h0, .inr (5, [.ref p0, .ref q_5, .ref q_16, .int 0, .int 0, .int 0, .int 0])), (q_5, .inr (2, [.ref h1_9, .int 0])), (h1_9, .inl (cy 0, 70, .inl (fun _ => 0))), (q_16, .inr (2, [.ref h1_20, .int 0])), (h1_20, .inl (cy 0, 70, .inl (fun _ => 0)))] H := hP
  have hD : va_D A [(h0, .inr (5, [.ref p0, .ref q_5, .ref q_16, .int 0, .int 0, .int 0, .int 0])), (q_5, .inr (2, [.ref h1_9, .int 0])), (h1_9, .inl (cy 0, 70, .inl (fun _ => 0))), (q_16, .inr (2, [.ref h1_20, .int 0])), (h1_20, .inl (cy 0, 70, .inl (fun _ => 0)))] := hD
  have hP9 := hP.sub (ws' := [(h0, .inr (5, [.ref p0, .ref q_5, .ref q_16, .int 0, .int 0, .int 0, .int 0])), (q_5, .inr (2, [.ref h1_9, .int 0])), (h1_9, .inl (cy 0, 70, .inl (fun _ => 0))), (q_16, .inr (2, [.ref h1_20, .int 0])), (h1_20, .inl (cy 0, 70, .inl (fun _ => 0)))]) [0, 1, 2, 3, 4] rfl
  have hD9 := hD.sub (ws' := [(h0, .inr (5, [.ref p0, .ref q_5, .ref q_16, .int 0, .int 0, .int 0, .int 0])), (q_5, .inr (2, [.ref h1_9, .int 0])), (h1_9, .inl (cy 0, 70, .inl (fun _ => 0))), (q_16, .inr (2, [.ref h1_20, .int 0])), (h1_20, .inl (cy 0, 70, .inl (fun _ => 0)))]) [0, 1, 2, 3, 4] (by decide) rfl
  exact W.vret hx hb hr (fun t ht hW => ⟨⟨(q_5, h1_9, q_16, h1_20), rfl, trivial, by rw [ht]; exact hP9, hD9⟩, hS.F ht⟩) hS.2.2 dX4_init_31

theorem iw_X4_makeRow_X4 : ∀ w ∈ wsX40, w ∈ wsX4_makeRow := by decide +kernel
theorem lk_X4_makeRow_f21 : (.fieldLink RX4 21 "DataGuards$Sender" "profile" "LDataGuards$Profile;" : Cond) ∈ wsX4_makeRow := by decide +kernel
theorem lk_X4_makeRow_f42 : (.fieldLink RX4 42 "DataGuards$Sender" "nextCounter" "I" : Cond) ∈ wsX4_makeRow := by decide +kernel
theorem lk_X4_makeRow_f39 : (.fieldLink RX4 39 "DataGuards$Sender" "skip" "I" : Cond) ∈ wsX4_makeRow := by decide +kernel
theorem lk_X4_makeRow_f18 : (.fieldLink RX4 18 "DataGuards$Sender" "row" "LDataGuards$Octets;" : Cond) ∈ wsX4_makeRow := by decide +kernel
theorem iw_X4_makeRow_X2 : ∀ w ∈ wsX20, w ∈ wsX4_makeRow := by decide +kernel
theorem lk_X4_makeRow_f12 : (.fieldLink RX4 12 "DataGuards$Sender" "data" "LDataGuards$Octets;" : Cond) ∈ wsX4_makeRow := by decide +kernel
theorem iw_X4_makeRow_X1 : ∀ w ∈ wsX10, w ∈ wsX4_makeRow := by decide +kernel
theorem lk_X4_makeRow_f33 : (.fieldLink RX4 33 "DataGuards$Sender" "flipPlace" "I" : Cond) ∈ wsX4_makeRow := by decide +kernel
theorem lk_X4_makeRow_f36 : (.fieldLink RX4 36 "DataGuards$Sender" "flipMask" "I" : Cond) ∈ wsX4_makeRow := by decide +kernel
set_option maxHeartbeats 4000000 in
set_option maxRecDepth 100000 in
/-- Sender.makeRow(identity) -/
theorem c_X4_makeRow (l : Launch) (D : va_G) (cy : Nat → ClassId) (sz : Nat) (h0 : Nat) (p0 : Nat) (d0 : Nat) (d1 : Nat) (r0 : Nat) (r1 : Nat) (ct : Nat) (fp : Nat) (fk : Int32) (sk : Nat) (pB : Nat) (pS : Nat) (pG : Nat) (pE : Nat) (pC : Nat) (pO : Nat) (f : Nat → Int32) (n : Nat) (rf : Nat → Int32) (rn : Nat) (g : Nat → Nat) (d : Nat) (hpv : pvd pB pS pG pE pC pO) (hn : n ≤ 64) (hg : oc_is f n g) (hd : d < 65536) (hct : ct < pC) (hfp : fp ≤ 100) (hsk : sk ≤ 100) : Met l yX4_makeRow wsX4_makeRow ({ frames := 3, cells := 0, slots := 0, locals := 67 } : Room) (pre1 D cy [.ref h0, .int (nI d)] [(h0, .inr (5, [.ref p0, .ref d0, .ref r0, .int (nI ct), .int (nI fp), .int fk, .int (nI sk)])), (p0, .inr (3, [.int (nI pB), .int (nI pS), .int (nI pG), .int (nI pE), .int (nI pC), .int (nI pO)])), (d0, .inr (2, [.ref d1, .int (nI n)])), (d1, .inl (cy 0, 70, .inl f)), (r0, .inr (2, [.ref r1, .int (nI rn)])), (r1, .inl (cy 0, 70, .inl rf))] sz) (va_Qi (fun (r : Int32) (u : (Nat → Int32)) => r = nI (pO + n + pB / 8) ∧ (oc_is u (pO + n + pB / 8) (flp fp (m8 fk) (rwv (pO + n) (pB / 8) (ck pB pS pG pE d (hdr pO ((ct + sk) % pC) g) (pO + n)) (hdr pO ((ct + sk) % pC) g))))) (fun u t => va_P D vwCl [(h0, .inr (5, [.ref p0, .ref d0, .ref r0, .int (nI (((ct + sk) % pC + 1) % pC)), .int (nI fp), .int 0, .int (nI 0)])), (p0, .inr (3, [.int (nI pB), .int (nI pS), .int (nI pG), .int (nI pE), .int (nI pC), .int (nI pO)])), (d0, .inr (2, [.ref d1, .int (nI 0)])), (d1, .inl (cy 0, 70, .inl f)), (r0, .inr (2, [.ref r1, .int (nI (pO + n + pB / 8))])), (r1, .inl (cy 0, 70, .inl u))] t.heap ∧ va_D (va_A [(h0, .inr (5, [.ref p0, .ref d0, .ref r0, .int (nI ct), .int (nI fp), .int fk, .int (nI sk)])), (p0, .inr (3, [.int (nI pB), .int (nI pS), .int (nI pG), .int (nI pE), .int (nI pC), .int (nI pO)])), (d0, .inr (2, [.ref d1, .int (nI n)])), (d1, .inl (cy 0, 70, .inl f)), (r0, .inr (2, [.ref r1, .int (nI rn)])), (r1, .inl (cy 0, 70, .inl rf))] sz) [(h0, .inr (5, [.ref p0, .ref d0, .ref r0, .int (nI (((ct + sk) % pC + 1) % pC)), .int (nI fp), .int 0, .int (nI 0)])), (p0, .inr (3, [.int (nI pB), .int (nI pS), .int (nI pG), .int (nI pE), .int (nI pC), .int (nI pO)])), (d0, .inr (2, [.ref d1, .int (nI 0)])), (d1, .inl (cy 0, 70, .inl f)), (r0, .inr (2, [.ref r1, .int (nI (pO + n + pB / 8))])), (r1, .inl (cy 0, 70, .inl u))]) (va_A [(h0, .inr (5, [.ref p0, .ref d0, .ref r0, .int (nI ct), .int (nI fp), .int fk, .int (nI sk)])), (p0, .inr (3, [.int (nI pB), .int (nI pS), .int (nI pG), .int (nI pE), .int (nI pC), .int (nI pO)])), (d0, .inr (2, [.ref d1, .int (nI n)])), (d1, .inl (cy 0, 70, .inl f)), (r0, .inr (2, [.ref r1, .int (nI rn)])), (r1, .inl (cy 0, 70, .inl rf))] sz)) 0 0 (va_A [(h0, .inr (5, [.ref p0, .ref d0, .ref r0, .int (nI ct), .int (nI fp), .int fk, .int (nI sk)])), (p0, .inr (3, [.int (nI pB), .int (nI pS), .int (nI pG), .int (nI pE), .int (nI pC), .int (nI pO)])), (d0, .inr (2, [.ref d1, .int (nI n)])), (d1, .inl (cy 0, 70, .inl f)), (r0, .inr (2, [.ref r1, .int (nI rn)])), (r1, .inl (cy 0, 70, .inl rf))] sz) := by
  refine Met.ofW (cc := cX4_makeRow) (maxL := 3) (ret := (some .int)) (by decide) rfl ?_
  intro p e s m args below meth c s₁ B hml hv
  obtain ⟨rfl, hsz, hP, hkk, hD0⟩ := hv
  have hx := B.exec
  have hb := B.bytes
  have hr := B.returns
  have hts := atoms_spec (ws := wsX4_makeRow) B.pre
  have hown : s.vm.findClass RX4 = some m.cls := findClass_of_methodNamed B.named
  have hlocks := B.notSynchronized
  have hin : meth.name = _ := (name_of_methodNamed B.named B.method).1
  have hK := hkk.1
  subst hsz
  have hD := hD0.self (sz := s.heap.size)
  generalize hAe : va_A [(h0, .inr (5, [.ref p0, .ref d0, .ref r0, .int (nI ct), .int (nI fp), .int fk, .int (nI sk)])), (p0, .inr (3, [.int (nI pB), .int (nI pS), .int (nI pG), .int (nI pE), .int (nI pC), .int (nI pO)])), (d0, .inr (2, [.ref d1, .int (nI n)])), (d1, .inl (cy 0, 70, .inl f)), (r0, .inr (2, [.ref r1, .int (nI rn)])), (r1, .inl (cy 0, 70, .inl rf))] s.heap.size = A at hD ⊢
  have hA : ∀ q : Nat, s.heap.size ≤ q → A q := fun q h => by rw [← hAe]; exact Or.inr h
  have hS : va_S A s.heap s.heap [] := va_S.rf
  have hP : va_P D vwCl [(h0, .inr (5, [.ref p0, .ref d0, .ref r0, .int (nI ct), .int (nI fp), .int fk, .int (nI sk)])), (p0, .inr (3, [.int (nI pB), .int (nI pS), .int (nI pG), .int (nI pE), .int (nI pC), .int (nI pO)])), (d0, .inr (2, [.ref d1, .int (nI n)])), (d1, .inl (cy 0, 70, .inl f)), (r0, .inr (2, [.ref r1, .int (nI rn)])), (r1, .inl (cy 0, 70, .inl rf))] s.heap := hP
  have hl := lv_entry ([.ref h0, .int (nI d)]) (n := 3) (Nat.le_of_ble_eq_true rfl)
  rw [lg_entry_eq]
  generalize (lg_sl ([.ref h0, .int (nI d)]) ++ List.replicate (3 - (lg_sl ([.ref h0, .int (nI d)])).length) Slot.unset).toArray = ls at hl ⊢
  have hl : lv_has ls 3 [(0, .ref h0), (1, .int (nI d))] := hl
  have h8 := isB_8 hpv.1
  have hO2 := hpv.2.2.2.2.2.2
  have hC9 := hpv.2.2.2.2.2.1
  have hC0 := hpv.2.2.2.2.1
  have hU : (ct + sk) % pC < pC := Nat.mod_lt _ hC0
  refine lv_aload_n hx hb dX4_makeRow_0 rfl (lv_at hl 0 rfl) ?_
  refine va_get (D := D) (ci := 5) (v := .ref p0) (C := RX4) (T := TX4) (N := 7) hx hb hts iw_X4_makeRow_X4 hown hK hP 0 rfl rfl 0 (by decide) (hts _ lk_X4_makeRow_f21) (fun _ h9 => h9) rfl dX4_makeRow_1 ?_
  refine lv_aload_n hx hb dX4_makeRow_4 rfl (lv_at hl 0 rfl) ?_
  refine va_get (D := D) (ci := 5) (v := .int (nI ct)) (C := RX4) (T := TX4) (N := 7) hx hb hts iw_X4_makeRow_X4 hown hK hP 0 rfl rfl 3 (by decide) (hts _ lk_X4_makeRow_f42) (fun _ h9 => h9) rfl dX4_makeRow_5 ?_
  refine lv_aload_n hx hb dX4_makeRow_8 rfl (lv_at hl 0 rfl) ?_
  refine va_get (D := D) (ci := 5) (v := .int (nI sk)) (C := RX4) (T := TX4) (N := 7) hx hb hts iw_X4_makeRow_X4 hown hK hP 0 rfl rfl 6 (by decide) (hts _ lk_X4_makeRow_f39) (fun _ h9 => h9) rfl dX4_makeRow_9 ?_
  refine lv_iadd hx hb dX4_makeRow_12 ?_
  have hPc := hP.sub (ws' := [(p0, .inr (3, [.int (nI pB), .int (nI pS), .int (nI pG), .int (nI pE), .int (nI pC), .int (nI pO)]))]) [1] rfl
  have hDc := hD.sub (ws' := [(p0, .inr (3, [.int (nI pB), .int (nI pS), .int (nI pG), .int (nI pE), .int (nI pC), .int (nI pO)]))]) [1] (by decide) rfl
  have hFc := va_free (wc := [(p0, .inr (3, [.int (nI pB), .int (nI pS), .int (nI pG), .int (nI pE), .int (nI pC), .int (nI pO)]))]) hD hS hA [1] rfl
  refine va_calli (va_runV (As := [.int ((nI ct) + (nI sk))]) (rest := []) ⟨hx, hb, hml, hown, hts⟩ (c_X2_goingRound l D cy s.heap.size p0 pB pS pG pE pC pO ((nI ct) + (nI sk)) hpv.2.2.2.2.1 hpv.2.2.2.2.2.1) (cwV 1 hts gX4_makeRow_X2_goingRound rfl rfl rfl (by decide +kernel) ⟨Nat.le_of_ble_eq_true rfl, Nat.le_of_ble_eq_true rfl⟩) (pv_V (ci := 3) (q := (RX2, TX2, 6)) hkk hPc hDc rfl rfl rfl) rfl rfl hl.1 rfl (lv_room (Nat.le_of_ble_eq_true rfl)) dX4_makeRow_13 ⟨Nat.le_of_ble_eq_true rfl, Nat.le_of_ble_eq_true rfl⟩) hS (fun q _ h => hFc q h) hFc (fun r_13 u t H1 locs ht hvm hw hB hz1 hk1 hS => ?_)
  obtain ⟨hP1, hD1⟩ := hB
  rw [ht] at hP1
  try dsimp only at hw hP1 hD1
  obtain ⟨hP, hD⟩ := va_join (wr := [(h0, .inr (5, [.ref p0, .ref d0, .ref r0, .int (nI ct), .int (nI fp), .int fk, .int (nI sk)])), (d0, .inr (2, [.ref d1, .int (nI n)])), (d1, .inl (cy 0, 70, .inl f)), (r0, .inr (2, [.ref r1, .int (nI rn)])), (r1, .inl (cy 0, 70, .inl rf))]) (w1 := [(p0, .inr (3, [.int (nI pB), .int (nI pS), .int (nI pG), .int (nI pE), .int (nI pC), .int (nI pO)]))]) hP hD [1] [0, 2, 3, 4, 5] rfl rfl (by decide) (by decide) hk1 hFc hP1 hD1
  clear hPc hDc hFc hP1 hD1 hz1 hk1
  generalize H1 = H at hP hS ⊢
  have hP : va_P D vwCl [(h0, .inr (5, [.ref p0, .ref d0, .ref r0, .int (nI ct), .int (nI fp), .int fk, .int (nI sk)])), (d0, .inr (2, [.ref d1, .int (nI n)])), (d1, .inl (cy 0, 70, .inl f)), (r0, .inr (2, [.ref r1, .int (nI rn)])), (r1, .inl (cy 0, 70, .inl rf)), (p0, .inr (3, [.int (nI pB), .int (nI pS), .int (nI pG), .int (nI pE), .int (nI pC), .int (nI pO)]))] H := hP
  have hD : va_D A [(h0, .inr (5, [.ref p0, .ref d0, .ref r0, .int (nI ct), .int (nI fp), .int fk, .int (nI sk)])), (d0, .inr (2, [.ref d1, .int (nI n)])), (d1, .inl (cy 0, 70, .inl f)), (r0, .inr (2, [.ref r1, .int (nI rn)])), (r1, .inl (cy 0, 70, .inl rf)), (p0, .inr (3, [.int (nI pB), .int (nI pS), .int (nI pG), .int (nI pE), .int (nI pC), .int (nI pO)]))] := hD
  obtain rfl := hw
  refine lv_topi (fun x_13 ex_13 => ?_)
  obtain rfl : x_13 = nI ((ct + sk) % pC) := by rw [ex_13]; exact fm_add (by omega) hsk hC0 hC9
  refine lv_istore_n (lv' := [(2, .int (nI ((ct + sk) % pC))), (0, .ref h0), (1, .int (nI d))]) hx hb dX4_makeRow_16 rfl hl (by decide) rfl (fun ls hl => ?_)
  refine lv_aload_n hx hb dX4_makeRow_17 rfl (lv_at hl 1 rfl) ?_
  refine va_get (D := D) (ci := 5) (v := .ref r0) (C := RX4) (T := TX4) (N := 7) hx hb hts iw_X4_makeRow_X4 hown hK hP 0 rfl rfl 2 (by decide) (hts _ lk_X4_makeRow_f18) (fun _ h9 => h9) rfl dX4_makeRow_18 ?_
  have hPc := hP.sub (ws' := [(r0, .inr (2, [.ref r1, .int (nI rn)])), (r1, .inl (cy 0, 70, .inl rf))]) [3, 4] rfl
  have hDc := hD.sub (ws' := [(r0, .inr (2, [.ref r1, .int (nI rn)])), (r1, .inl (cy 0, 70, .inl rf))]) [3, 4] (by decide) rfl
  have hFc := va_free (wc := [(r0, .inr (2, [.ref r1, .int (nI rn)])), (r1, .inl (cy 0, 70, .inl rf))]) hD hS hA [3, 4] rfl
  refine va_callv (va_runV (As := []) (rest := []) ⟨hx, hb, hml, hown, hts⟩ (c_X1_clear l D cy H.size r0 r1 rf rn ) (cwV 0 hts gX4_makeRow_X1_clear rfl rfl rfl (by decide +kernel) ⟨Nat.le_of_ble_eq_true rfl, Nat.le_of_ble_eq_true rfl⟩) (pv_V (ci := 2) (q := (RX1, TX1, 2)) hkk hPc hDc rfl rfl rfl) rfl rfl hl.1 rfl (lv_room (Nat.le_of_ble_eq_true rfl)) dX4_makeRow_21 ⟨Nat.le_of_ble_eq_true rfl, Nat.le_of_ble_eq_true rfl⟩) hS (fun q _ h => hFc q h) hFc (fun u t H1 locs ht hvm hw hB hz1 hk1 hS => ?_)
  obtain ⟨hP1, hD1⟩ := hB
  rw [ht] at hP1
  try dsimp only at hw hP1 hD1
  obtain ⟨hP, hD⟩ := va_join (wr := [(h0, .inr (5, [.ref p0, .ref d0, .ref r0, .int (nI ct), .int (nI fp), .int fk, .int (nI sk)])), (d0, .inr (2, [.ref d1, .int (nI n)])), (d1, .inl (cy 0, 70, .inl f)), (p0, .inr (3, [.int (nI pB), .int (nI pS), .int (nI pG), .int (nI pE), .int (nI pC), .int (nI pO)]))]) (w1 := [(r0, .inr (2, [.ref r1, .int (nI 0)])), (r1, .inl (cy 0, 70, .inl rf))]) hP hD [3, 4] [0, 1, 2, 5] rfl rfl (by decide) (by decide) hk1 hFc hP1 hD1
  clear hPc hDc hFc hP1 hD1 hz1 hk1
  generalize H1 = H at hP hS ⊢
  have hP : va_P D vwCl [(h0, .inr (5, [.ref p0, .ref d0, .ref r0, .int (nI ct), .int (nI fp), .int fk, .int (nI sk)])), (d0, .inr (2, [.ref d1, .int (nI n)])), (d1, .inl (cy 0, 70, .inl f)), (p0, .inr (3, [.int (nI pB), .int (nI pS), .int (nI pG), .int (nI pE), .int (nI pC), .int (nI pO)])), (r0, .inr (2, [.ref r1, .int (nI 0)])), (r1, .inl (cy 0, 70, .inl rf))] H := hP
  have hD : va_D A [(h0, .inr (5, [.ref p0, .ref d0, .ref r0, .int (nI ct), .int (nI fp), .int fk, .int (nI sk)])), (d0, .inr (2, [.ref d1, .int (nI n)])), (d1, .inl (cy 0, 70, .inl f)), (p0, .inr (3, [.int (nI pB), .int (nI pS), .int (nI pG), .int (nI pE), .int (nI pC), .int (nI pO)])), (r0, .inr (2, [.ref r1, .int (nI 0)])), (r1, .inl (cy 0, 70, .inl rf))] := hD
  have hw_21 := hw
  refine lv_aload_n hx hb dX4_makeRow_24 rfl (lv_at hl 1 rfl) ?_
  refine va_get (D := D) (ci := 5) (v := .ref r0) (C := RX4) (T := TX4) (N := 7) hx hb hts iw_X4_makeRow_X4 hown hK hP 0 rfl rfl 2 (by decide) (hts _ lk_X4_makeRow_f18) (fun _ h9 => h9) rfl dX4_makeRow_25 ?_
  refine lv_iload_n hx hb dX4_makeRow_28 rfl (lv_at hl 0 rfl) ?_
  refine lv_aload_n hx hb dX4_makeRow_29 rfl (lv_at hl 1 rfl) ?_
  refine va_get (D := D) (ci := 5) (v := .ref p0) (C := RX4) (T := TX4) (N := 7) hx hb hts iw_X4_makeRow_X4 hown hK hP 0 rfl rfl 0 (by decide) (hts _ lk_X4_makeRow_f21) (fun _ h9 => h9) rfl dX4_makeRow_30 ?_
  refine va_getN (D := D) (ci := 3) (v := .int (nI pO)) (C := RX2) (T := TX2) (N := 6) hx hb hts iw_X4_makeRow_X2 hown hK hP 3 rfl rfl 5 (by decide) (nw_use 2 rfl rfl hkk.2) (fun _ h9 => h9) rfl dX4_makeRow_33 ?_
  have hPc := hP.sub (ws' := [(r0, .inr (2, [.ref r1, .int (nI 0)])), (r1, .inl (cy 0, 70, .inl rf))]) [4, 5] rfl
  have hDc := hD.sub (ws' := [(r0, .inr (2, [.ref r1, .int (nI 0)])), (r1, .inl (cy 0, 70, .inl rf))]) [4, 5] (by decide) rfl
  have hFc := va_free (wc := [(r0, .inr (2, [.ref r1, .int (nI 0)])), (r1, .inl (cy 0, 70, .inl rf))]) hD hS hA [4, 5] rfl
  refine va_callv (va_runV (As := [.int (nI ((ct + sk) % pC)), .int (nI pO)]) (rest := []) ⟨hx, hb, hml, hown, hts⟩ (c_X1_addNumber l D cy H.size r0 r1 rf 0 (nI ((ct + sk) % pC)) pO (by omega) (by omega)) (cwV 2 hts gX4_makeRow_X1_addNumber rfl rfl rfl (by decide +kernel) ⟨Nat.le_of_ble_eq_true rfl, Nat.le_of_ble_eq_true rfl⟩) (pv_V (ci := 2) (q := (RX1, TX1, 2)) hkk hPc hDc rfl rfl rfl) rfl rfl hl.1 rfl (lv_room (Nat.le_of_ble_eq_true rfl)) dX4_makeRow_36 ⟨Nat.le_of_ble_eq_true rfl, Nat.le_of_ble_eq_true rfl⟩) hS (fun q _ h => hFc q h) hFc (fun u t H1 locs ht hvm hw hB hz1 hk1 hS => ?_)
  obtain ⟨f2_36, rfl⟩ : ∃ z, z = u := ⟨_, rfl⟩
  obtain ⟨hP1, hD1⟩ := hB
  rw [ht] at hP1
  try dsimp only at hw hP1 hD1
  obtain ⟨hP, hD⟩ := va_join (wr := [(h0, .inr (5, [.ref p0, .ref d0, .ref r0, .int (nI ct), .int (nI fp), .int fk, .int (nI sk)])), (d0, .inr (2, [.ref d1, .int (nI n)])), (d1, .inl (cy 0, 70, .inl f)), (p0, .inr (3, [.int (nI pB), .int (nI pS), .int (nI pG), .int (nI pE), .int (nI pC), .int (nI pO)]))]) (w1 := [(r0, .inr (2, [.ref r1, .int (nI (0 + pO))])), (r1, .inl (cy 0, 70, .inl f2_36))]) hP hD [4, 5] [0, 1, 2, 3] rfl rfl (by decide) (by decide) hk1 hFc hP1 hD1
  clear hPc hDc hFc hP1 hD1 hz1 hk1
  generalize H1 = H at hP hS ⊢
  have hP : va_P D vwCl [(h0, .inr (5, [.ref p0, .ref d0, .ref r0, .int (nI ct), .int (nI fp), .int fk, .int (nI sk)])), (d0, .inr (2, [.ref d1, .int (nI n)])), (d1, .inl (cy 0, 70, .inl f)), (p0, .inr (3, [.int (nI pB), .int (nI pS), .int (nI pG), .int (nI pE), .int (nI pC), .int (nI pO)])), (r0, .inr (2, [.ref r1, .int (nI (0 + pO))])), (r1, .inl (cy 0, 70, .inl f2_36))] H := hP
  have hD : va_D A [(h0, .inr (5, [.ref p0, .ref d0, .ref r0, .int (nI ct), .int (nI fp), .int fk, .int (nI sk)])), (d0, .inr (2, [.ref d1, .int (nI n)])), (d1, .inl (cy 0, 70, .inl f)), (p0, .inr (3, [.int (nI pB), .int (nI pS), .int (nI pG), .int (nI pE), .int (nI pC), .int (nI pO)])), (r0, .inr (2, [.ref r1, .int (nI (0 + pO))])), (r1, .inl (cy 0, 70, .inl f2_36))] := hD
  have hw_36 := hw
  refine lv_aload_n hx hb dX4_makeRow_39 rfl (lv_at hl 1 rfl) ?_
  refine va_get (D := D) (ci := 5) (v := .ref r0) (C := RX4) (T := TX4) (N := 7) hx hb hts iw_X4_makeRow_X4 hown hK hP 0 rfl rfl 2 (by decide) (hts _ lk_X4_makeRow_f18) (fun _ h9 => h9) rfl dX4_makeRow_40 ?_
  refine lv_aload_n hx hb dX4_makeRow_43 rfl (lv_at hl 1 rfl) ?_
  refine va_get (D := D) (ci := 5) (v := .ref d0) (C := RX4) (T := TX4) (N := 7) hx hb hts iw_X4_makeRow_X4 hown hK hP 0 rfl rfl 1 (by decide) (hts _ lk_X4_makeRow_f12) (fun _ h9 => h9) rfl dX4_makeRow_44 ?_
  have hPc := hP.sub (ws' := [(r0, .inr (2, [.ref r1, .int (nI (0 + pO))])), (r1, .inl (cy 0, 70, .inl f2_36)), (d0, .inr (2, [.ref d1, .int (nI n)])), (d1, .inl (cy 0, 70, .inl f))]) [4, 5, 1, 2] rfl
  have hDc := hD.sub (ws' := [(r0, .inr (2, [.ref r1, .int (nI (0 + pO))])), (r1, .inl (cy 0, 70, .inl f2_36)), (d0, .inr (2, [.ref d1, .int (nI n)])), (d1, .inl (cy 0, 70, .inl f))]) [4, 5, 1, 2] (by decide) rfl
  have hFc := va_free (wc := [(r0, .inr (2, [.ref r1, .int (nI (0 + pO))])), (r1, .inl (cy 0, 70, .inl f2_36)), (d0, .inr (2, [.ref d1, .int (nI n)])), (d1, .inl (cy 0, 70, .inl f))]) hD hS hA [4, 5, 1, 2] rfl
  refine va_callv (va_runV (As := [.ref d0]) (rest := []) ⟨hx, hb, hml, hown, hts⟩ (c_X1_addAll l D cy H.size r0 r1 f2_36 (0 + pO) d0 d1 f n (by omega)) (cwV 1 hts gX4_makeRow_X1_addAll rfl rfl rfl (by decide +kernel) ⟨Nat.le_of_ble_eq_true rfl, Nat.le_of_ble_eq_true rfl⟩) (pv_V (ci := 2) (q := (RX1, TX1, 2)) hkk hPc hDc rfl rfl rfl) rfl rfl hl.1 rfl (lv_room (Nat.le_of_ble_eq_true rfl)) dX4_makeRow_47 ⟨Nat.le_of_ble_eq_true rfl, Nat.le_of_ble_eq_true rfl⟩) hS (fun q _ h => hFc q h) hFc (fun u t H1 locs ht hvm hw hB hz1 hk1 hS => ?_)
  obtain ⟨f2_47, rfl⟩ : ∃ z, z = u := ⟨_, rfl⟩
  obtain ⟨hP1, hD1⟩ := hB
  rw [ht] at hP1
  try dsimp only at hw hP1 hD1
  obtain ⟨hP, hD⟩ := va_join (wr := [(h0, .inr (5, [.ref p0, .ref d0, .ref r0, .int (nI ct), .int (nI fp), .int fk, .int (nI sk)])), (p0, .inr (3, [.int (nI pB), .int (nI pS), .int (nI pG), .int (nI pE), .int (nI pC), .int (nI pO)]))]) (w1 := [(r0, .inr (2, [.ref r1, .int (nI ((0 + pO) + n))])), (r1, .inl (cy 0, 70, .inl f2_47)), (d0, .inr (2, [.ref d1, .int (nI n)])), (d1, .inl (cy 0, 70, .inl f))]) hP hD [4, 5, 1, 2] [0, 3] rfl rfl (by decide) (by decide) hk1 hFc hP1 hD1
  clear hPc hDc hFc hP1 hD1 hz1 hk1
  generalize H1 = H at hP hS ⊢
  have hP : va_P D vwCl [(h0, .inr (5, [.ref p0, .ref d0, .ref r0, .int (nI ct), .int (nI fp), .int fk, .int (nI sk)])), (p0, .inr (3, [.int (nI pB), .int (nI pS), .int (nI pG), .int (nI pE), .int (nI pC), .int (nI pO)])), (r0, .inr (2, [.ref r1, .int (nI ((0 + pO) + n))])), (r1, .inl (cy 0, 70, .inl f2_47)), (d0, .inr (2, [.ref d1, .int (nI n)])), (d1, .inl (cy 0, 70, .inl f))] H := hP
  have hD : va_D A [(h0, .inr (5, [.ref p0, .ref d0, .ref r0, .int (nI ct), .int (nI fp), .int fk, .int (nI sk)])), (p0, .inr (3, [.int (nI pB), .int (nI pS), .int (nI pG), .int (nI pE), .int (nI pC), .int (nI pO)])), (r0, .inr (2, [.ref r1, .int (nI ((0 + pO) + n))])), (r1, .inl (cy 0, 70, .inl f2_47)), (d0, .inr (2, [.ref d1, .int (nI n)])), (d1, .inl (cy 0, 70, .inl f))] := hD
  have hw_47 := hw
  have hh : oc_is f2_47 (0 + pO + n) (hdr pO ((ct + sk) % pC) g) := hdr_is (by omega) hO2.2 hn hg hw_36.2 hw_47.1 hw_47.2
  rw [Nat.zero_add] at hP hD hh
  refine lv_aload_n hx hb dX4_makeRow_50 rfl (lv_at hl 1 rfl) ?_
  refine va_get (D := D) (ci := 5) (v := .ref r0) (C := RX4) (T := TX4) (N := 7) hx hb hts iw_X4_makeRow_X4 hown hK hP 0 rfl rfl 2 (by decide) (hts _ lk_X4_makeRow_f18) (fun _ h9 => h9) rfl dX4_makeRow_51 ?_
  refine lv_aload_n hx hb dX4_makeRow_54 rfl (lv_at hl 1 rfl) ?_
  refine va_get (D := D) (ci := 5) (v := .ref p0) (C := RX4) (T := TX4) (N := 7) hx hb hts iw_X4_makeRow_X4 hown hK hP 0 rfl rfl 0 (by decide) (hts _ lk_X4_makeRow_f21) (fun _ h9 => h9) rfl dX4_makeRow_55 ?_
  refine lv_iload_n hx hb dX4_makeRow_58 rfl (lv_at hl 2 rfl) ?_
  refine lv_aload_n hx hb dX4_makeRow_59 rfl (lv_at hl 1 rfl) ?_
  refine va_get (D := D) (ci := 5) (v := .ref r0) (C := RX4) (T := TX4) (N := 7) hx hb hts iw_X4_makeRow_X4 hown hK hP 0 rfl rfl 2 (by decide) (hts _ lk_X4_makeRow_f18) (fun _ h9 => h9) rfl dX4_makeRow_60 ?_
  refine lv_aload_n hx hb dX4_makeRow_63 rfl (lv_at hl 1 rfl) ?_
  refine va_get (D := D) (ci := 5) (v := .ref r0) (C := RX4) (T := TX4) (N := 7) hx hb hts iw_X4_makeRow_X4 hown hK hP 0 rfl rfl 2 (by decide) (hts _ lk_X4_makeRow_f18) (fun _ h9 => h9) rfl dX4_makeRow_64 ?_
  refine va_getN (D := D) (ci := 2) (v := .int (nI (pO + n))) (C := RX1) (T := TX1) (N := 2) hx hb hts iw_X4_makeRow_X1 hown hK hP 2 rfl rfl 1 (by decide) (nw_use 3 rfl rfl hkk.2) (fun _ h9 => h9) rfl dX4_makeRow_67 ?_
  have hPc := hP.sub (ws' := [(p0, .inr (3, [.int (nI pB), .int (nI pS), .int (nI pG), .int (nI pE), .int (nI pC), .int (nI pO)])), (r0, .inr (2, [.ref r1, .int (nI (pO + n))])), (r1, .inl (cy 0, 70, .inl f2_47))]) [1, 2, 3] rfl
  have hDc := hD.sub (ws' := [(p0, .inr (3, [.int (nI pB), .int (nI pS), .int (nI pG), .int (nI pE), .int (nI pC), .int (nI pO)])), (r0, .inr (2, [.ref r1, .int (nI (pO + n))])), (r1, .inl (cy 0, 70, .inl f2_47))]) [1, 2, 3] (by decide) rfl
  have hFc := va_free (wc := [(p0, .inr (3, [.int (nI pB), .int (nI pS), .int (nI pG), .int (nI pE), .int (nI pC), .int (nI pO)])), (r0, .inr (2, [.ref r1, .int (nI (pO + n))])), (r1, .inl (cy 0, 70, .inl f2_47))]) hD hS hA [1, 2, 3] rfl
  refine va_calli (va_runV (As := [.int (nI d), .ref r0, .int (nI (pO + n))]) (rest := [.ref r0]) ⟨hx, hb, hml, hown, hts⟩ (c_X2_checkOver l D cy H.size p0 pB pS pG pE pC pO r0 r1 f2_47 (pO + n) (hdr pO ((ct + sk) % pC) g) d (pO + n) hpv.1 hpv.2.2.1 hpv.2.1 (by first | assumption | omega) (by omega) (Nat.le_refl _) hh) (cwV 3 hts gX4_makeRow_X2_checkOver rfl rfl rfl (by decide +kernel) ⟨Nat.le_of_ble_eq_true rfl, Nat.le_of_ble_eq_true rfl⟩) (pv_V (ci := 3) (q := (RX2, TX2, 6)) hkk hPc hDc rfl rfl rfl) rfl rfl hl.1 rfl (lv_room (Nat.le_of_ble_eq_true rfl)) dX4_makeRow_70 ⟨Nat.le_of_ble_eq_true rfl, Nat.le_of_ble_eq_true rfl⟩) hS (fun q _ h => hFc q h) hFc (fun r_70 u t H1 locs ht hvm hw hB hz1 hk1 hS => ?_)
  obtain ⟨hP1, hD1⟩ := hB
  rw [ht] at hP1
  try dsimp only at hw hP1 hD1
  obtain ⟨hP, hD⟩ := va_join (wr := [(h0, .inr (5, [.ref p0, .ref d0, .ref r0, .int (nI ct), .int (nI fp), .int fk, .int (nI sk)])), (d0, .inr (2, [.ref d1, .int (nI n)])), (d1, .inl (cy 0, 70, .inl f))]) (w1 := [(p0, .inr (3, [.int (nI pB), .int (nI pS), .int (nI pG), .int (nI pE), .int (nI pC), .int (nI pO)])), (r0, .inr (2, [.ref r1, .int (nI (pO + n))])), (r1, .inl (cy 0, 70, .inl f2_47))]) hP hD [1, 2, 3] [0, 4, 5] rfl rfl (by decide) (by decide) hk1 hFc hP1 hD1
  clear hPc hDc hFc hP1 hD1 hz1 hk1
  generalize H1 = H at hP hS ⊢
  have hP : va_P D vwCl [(h0, .inr (5, [.ref p0, .ref d0, .ref r0, .int (nI ct), .int (nI fp), .int fk, .int (nI sk)])), (d0, .inr (2, [.ref d1, .int (nI n)])), (d1, .inl (cy 0, 70, .inl f)), (p0, .inr (3, [.int (nI pB), .int (nI pS), .int (nI pG), .int (nI pE), .int (nI pC), .int (nI pO)])), (r0, .inr (2, [.ref r1, .int (nI (pO + n))])), (r1, .inl (cy 0, 70, .inl f2_47))] H := hP
  have hD : va_D A [(h0, .inr (5, [.ref p0, .ref d0, .ref r0, .int (nI ct), .int (nI fp), .int fk, .int (nI sk)])), (d0, .inr (2, [.ref d1, .int (nI n)])), (d1, .inl (cy 0, 70, .inl f)), (p0, .inr (3, [.int (nI pB), .int (nI pS), .int (nI pG), .int (nI pE), .int (nI pC), .int (nI pO)])), (r0, .inr (2, [.ref r1, .int (nI (pO + n))])), (r1, .inl (cy 0, 70, .inl f2_47))] := hD
  obtain rfl := hw
  refine lv_aload_n hx hb dX4_makeRow_73 rfl (lv_at hl 1 rfl) ?_
  refine va_get (D := D) (ci := 5) (v := .ref p0) (C := RX4) (T := TX4) (N := 7) hx hb hts iw_X4_makeRow_X4 hown hK hP 0 rfl rfl 0 (by decide) (hts _ lk_X4_makeRow_f21) (fun _ h9 => h9) rfl dX4_makeRow_74 ?_
  have hPc := hP.sub (ws' := [(p0, .inr (3, [.int (nI pB), .int (nI pS), .int (nI pG), .int (nI pE), .int (nI pC), .int (nI pO)]))]) [3] rfl
  have hDc := hD.sub (ws' := [(p0, .inr (3, [.int (nI pB), .int (nI pS), .int (nI pG), .int (nI pE), .int (nI pC), .int (nI pO)]))]) [3] (by decide) rfl
  have hFc := va_free (wc := [(p0, .inr (3, [.int (nI pB), .int (nI pS), .int (nI pG), .int (nI pE), .int (nI pC), .int (nI pO)]))]) hD hS hA [3] rfl
  refine va_calli (va_runV (As := []) (rest := [.int (nI (ck pB pS pG pE d (hdr pO ((ct + sk) % pC) g) (pO + n))), .ref r0]) ⟨hx, hb, hml, hown, hts⟩ (c_X2_checkOctets l D cy H.size p0 pB pS pG pE pC pO hpv.1) (cwV 0 hts gX4_makeRow_X2_checkOctets rfl rfl rfl (by decide +kernel) ⟨Nat.le_of_ble_eq_true rfl, Nat.le_of_ble_eq_true rfl⟩) (pv_V (ci := 3) (q := (RX2, TX2, 6)) hkk hPc hDc rfl rfl rfl) rfl rfl hl.1 rfl (lv_room (Nat.le_of_ble_eq_true rfl)) dX4_makeRow_77 ⟨Nat.le_of_ble_eq_true rfl, Nat.le_of_ble_eq_true rfl⟩) hS (fun q _ h => hFc q h) hFc (fun r_77 u t H1 locs ht hvm hw hB hz1 hk1 hS => ?_)
  obtain ⟨hP1, hD1⟩ := hB
  rw [ht] at hP1
  try dsimp only at hw hP1 hD1
  obtain ⟨hP, hD⟩ := va_join (wr := [(h0, .inr (5, [.ref p0, .ref d0, .ref r0, .int (nI ct), .int (nI fp), .int fk, .int (nI sk)])), (d0, .inr (2, [.ref d1, .int (nI n)])), (d1, .inl (cy 0, 70, .inl f)), (r0, .inr (2, [.ref r1, .int (nI (pO + n))])), (r1, .inl (cy 0, 70, .inl f2_47))]) (w1 := [(p0, .inr (3, [.int (nI pB), .int (nI pS), .int (nI pG), .int (nI pE), .int (nI pC), .int (nI pO)]))]) hP hD [3] [0, 1, 2, 4, 5] rfl rfl (by decide) (by decide) hk1 hFc hP1 hD1
  clear hPc hDc hFc hP1 hD1 hz1 hk1
  generalize H1 = H at hP hS ⊢
  have hP : va_P D vwCl [(h0, .inr (5, [.ref p0, .ref d0, .ref r0, .int (nI ct), .int (nI fp), .int fk, .int (nI sk)])), (d0, .inr (2, [.ref d1, .int (nI n)])), (d1, .inl (cy 0, 70, .inl f)), (r0, .inr (2, [.ref r1, .int (nI (pO + n))])), (r1, .inl (cy 0, 70, .inl f2_47)), (p0, .inr (3, [.int (nI pB), .int (nI pS), .int (nI pG), .int (nI pE), .int (nI pC), .int (nI pO)]))] H := hP
  have hD : va_D A [(h0, .inr (5, [.ref p0, .ref d0, .ref r0, .int (nI ct), .int (nI fp), .int fk, .int (nI sk)])), (d0, .inr (2, [.ref d1, .int (nI n)])), (d1, .inl (cy 0, 70, .inl f)), (r0, .inr (2, [.ref r1, .int (nI (pO + n))])), (r1, .inl (cy 0, 70, .inl f2_47)), (p0, .inr (3, [.int (nI pB), .int (nI pS), .int (nI pG), .int (nI pE), .int (nI pC), .int (nI pO)]))] := hD
  obtain rfl := hw
  have hPc := hP.sub (ws' := [(r0, .inr (2, [.ref r1, .int (nI (pO + n))])), (r1, .inl (cy 0, 70, .inl f2_47))]) [3, 4] rfl
  have hDc := hD.sub (ws' := [(r0, .inr (2, [.ref r1, .int (nI (pO + n))])), (r1, .inl (cy 0, 70, .inl f2_47))]) [3, 4] (by decide) rfl
  have hFc := va_free (wc := [(r0, .inr (2, [.ref r1, .int (nI (pO + n))])), (r1, .inl (cy 0, 70, .inl f2_47))]) hD hS hA [3, 4] rfl
  refine va_callv (va_runV (As := [.int (nI (ck pB pS pG pE d (hdr pO ((ct + sk) % pC) g) (pO + n))), .int (nI (pB / 8))]) (rest := []) ⟨hx, hb, hml, hown, hts⟩ (c_X1_addNumber l D cy H.size r0 r1 f2_47 (pO + n) (nI (ck pB pS pG pE d (hdr pO ((ct + sk) % pC) g) (pO + n))) (pB / 8) (by omega) (by omega)) (cwV 2 hts gX4_makeRow_X1_addNumber rfl rfl rfl (by decide +kernel) ⟨Nat.le_of_ble_eq_true rfl, Nat.le_of_ble_eq_true rfl⟩) (pv_V (ci := 2) (q := (RX1, TX1, 2)) hkk hPc hDc rfl rfl rfl) rfl rfl hl.1 rfl (lv_room (Nat.le_of_ble_eq_true rfl)) dX4_makeRow_80 ⟨Nat.le_of_ble_eq_true rfl, Nat.le_of_ble_eq_true rfl⟩) hS (fun q _ h => hFc q h) hFc (fun u t H1 locs ht hvm hw hB hz1 hk1 hS => ?_)
  obtain ⟨f2_80, rfl⟩ : ∃ z, z = u := ⟨_, rfl⟩
  obtain ⟨hP1, hD1⟩ := hB
  rw [ht] at hP1
  try dsimp only at hw hP1 hD1
  obtain ⟨hP, hD⟩ := va_join (wr := [(h0, .inr (5, [.ref p0, .ref d0, .ref r0, .int (nI ct), .int (nI fp), .int fk, .int (nI sk)])), (d0, .inr (2, [.ref d1, .int (nI n)])), (d1, .inl (cy 0, 70, .inl f)), (p0, .inr (3, [.int (nI pB), .int (nI pS), .int (nI pG), .int (nI pE), .int (nI pC), .int (nI pO)]))]) (w1 := [(r0, .inr (2, [.ref r1, .int (nI ((pO + n) + (pB / 8)))])), (r1, .inl (cy 0, 70, .inl f2_80))]) hP hD [3, 4] [0, 1, 2, 5] rfl rfl (by decide) (by decide) hk1 hFc hP1 hD1
  clear hPc hDc hFc hP1 hD1 hz1 hk1
  generalize H1 = H at hP hS ⊢
  have hP : va_P D vwCl [(h0, .inr (5, [.ref p0, .ref d0, .ref r0, .int (nI ct), .int (nI fp), .int fk, .int (nI sk)])), (d0, .inr (2, [.ref d1, .int (nI n)])), (d1, .inl (cy 0, 70, .inl f)), (p0, .inr (3, [.int (nI pB), .int (nI pS), .int (nI pG), .int (nI pE), .int (nI pC), .int (nI pO)])), (r0, .inr (2, [.ref r1, .int (nI ((pO + n) + (pB / 8)))])), (r1, .inl (cy 0, 70, .inl f2_80))] H := hP
  have hD : va_D A [(h0, .inr (5, [.ref p0, .ref d0, .ref r0, .int (nI ct), .int (nI fp), .int fk, .int (nI sk)])), (d0, .inr (2, [.ref d1, .int (nI n)])), (d1, .inl (cy 0, 70, .inl f)), (p0, .inr (3, [.int (nI pB), .int (nI pS), .int (nI pG), .int (nI pE), .int (nI pC), .int (nI pO)])), (r0, .inr (2, [.ref r1, .int (nI ((pO + n) + (pB / 8)))])), (r1, .inl (cy 0, 70, .inl f2_80))] := hD
  have hw_80 := hw
  have hr9 := rwv_is (b := pB / 8) (isB_32 hpv.1 (ck_lt hpv.2.1 hpv.2.2.1 hpv.2.2.2.1)) h8.2.1 hh hw_80.1 hw_80.2
  refine lv_aload_n hx hb dX4_makeRow_83 rfl (lv_at hl 1 rfl) ?_
  refine va_get (D := D) (ci := 5) (v := .ref r0) (C := RX4) (T := TX4) (N := 7) hx hb hts iw_X4_makeRow_X4 hown hK hP 0 rfl rfl 2 (by decide) (hts _ lk_X4_makeRow_f18) (fun _ h9 => h9) rfl dX4_makeRow_84 ?_
  refine lv_aload_n hx hb dX4_makeRow_87 rfl (lv_at hl 1 rfl) ?_
  refine va_get (D := D) (ci := 5) (v := .int (nI fp)) (C := RX4) (T := TX4) (N := 7) hx hb hts iw_X4_makeRow_X4 hown hK hP 0 rfl rfl 4 (by decide) (hts _ lk_X4_makeRow_f33) (fun _ h9 => h9) rfl dX4_makeRow_88 ?_
  refine lv_aload_n hx hb dX4_makeRow_91 rfl (lv_at hl 1 rfl) ?_
  refine va_get (D := D) (ci := 5) (v := .int fk) (C := RX4) (T := TX4) (N := 7) hx hb hts iw_X4_makeRow_X4 hown hK hP 0 rfl rfl 5 (by decide) (hts _ lk_X4_makeRow_f36) (fun _ h9 => h9) rfl dX4_makeRow_92 ?_
  have hPc := hP.sub (ws' := [(r0, .inr (2, [.ref r1, .int (nI ((pO + n) + (pB / 8)))])), (r1, .inl (cy 0, 70, .inl f2_80))]) [4, 5] rfl
  have hDc := hD.sub (ws' := [(r0, .inr (2, [.ref r1, .int (nI ((pO + n) + (pB / 8)))])), (r1, .inl (cy 0, 70, .inl f2_80))]) [4, 5] (by decide) rfl
  have hFc := va_free (wc := [(r0, .inr (2, [.ref r1, .int (nI ((pO + n) + (pB / 8)))])), (r1, .inl (cy 0, 70, .inl f2_80))]) hD hS hA [4, 5] rfl
  refine va_callv (va_runV (As := [.int (nI fp), .int fk]) (rest := []) ⟨hx, hb, hml, hown, hts⟩ (c_X1_flip l D cy H.size r0 r1 f2_80 ((pO + n) + (pB / 8)) (nI fp) fk (by omega)) (cwV 2 hts gX4_makeRow_X1_flip rfl rfl rfl (by decide +kernel) ⟨Nat.le_of_ble_eq_true rfl, Nat.le_of_ble_eq_true rfl⟩) (pv_V (ci := 2) (q := (RX1, TX1, 2)) hkk hPc hDc rfl rfl rfl) rfl rfl hl.1 rfl (lv_room (Nat.le_of_ble_eq_true rfl)) dX4_makeRow_95 ⟨Nat.le_of_ble_eq_true rfl, Nat.le_of_ble_eq_true rfl⟩) hS (fun q _ h => hFc q h) hFc (fun u t H1 locs ht hvm hw hB hz1 hk1 hS => ?_)
  obtain ⟨hP1, hD1⟩ := hB
  rw [ht] at hP1
  try dsimp only at hw hP1 hD1
  obtain ⟨hP, hD⟩ := va_join (wr := [(h0, .inr (5, [.ref p0, .ref d0, .ref r0, .int (nI ct), .int (nI fp), .int fk, .int (nI sk)])), (d0, .inr (2, [.ref d1, .int (nI n)])), (d1, .inl (cy 0, 70, .inl f)), (p0, .inr (3, [.int (nI pB), .int (nI pS), .int (nI pG), .int (nI pE), .int (nI pC), .int (nI pO)]))]) (w1 := [(r0, .inr (2, [.ref r1, .int (nI ((pO + n) + (pB / 8)))])), (r1, .inl (cy 0, 70, .inl (oc_flip f2_80 ((pO + n) + (pB / 8)) (nI fp) fk)))]) hP hD [4, 5] [0, 1, 2, 3] rfl rfl (by decide) (by decide) hk1 hFc hP1 hD1
  clear hPc hDc hFc hP1 hD1 hz1 hk1
  generalize H1 = H at hP hS ⊢
  have hP : va_P D vwCl [(h0, .inr (5, [.ref p0, .ref d0, .ref r0, .int (nI ct), .int (nI fp), .int fk, .int (nI sk)])), (d0, .inr (2, [.ref d1, .int (nI n)])), (d1, .inl (cy 0, 70, .inl f)), (p0, .inr (3, [.int (nI pB), .int (nI pS), .int (nI pG), .int (nI pE), .int (nI pC), .int (nI pO)])), (r0, .inr (2, [.ref r1, .int (nI ((pO + n) + (pB / 8)))])), (r1, .inl (cy 0, 70, .inl (oc_flip f2_80 ((pO + n) + (pB / 8)) (nI fp) fk)))] H := hP
  have hD : va_D A [(h0, .inr (5, [.ref p0, .ref d0, .ref r0, .int (nI ct), .int (nI fp), .int fk, .int (nI sk)])), (d0, .inr (2, [.ref d1, .int (nI n)])), (d1, .inl (cy 0, 70, .inl f)), (p0, .inr (3, [.int (nI pB), .int (nI pS), .int (nI pG), .int (nI pE), .int (nI pC), .int (nI pO)])), (r0, .inr (2, [.ref r1, .int (nI ((pO + n) + (pB / 8)))])), (r1, .inl (cy 0, 70, .inl (oc_flip f2_80 ((pO + n) + (pB / 8)) (nI fp) fk)))] := hD
  have hw_95 := hw
  refine lv_aload_n hx hb dX4_makeRow_98 rfl (lv_at hl 1 rfl) ?_
  refine lv_aload_n hx hb dX4_makeRow_99 rfl (lv_at hl 1 rfl) ?_
  refine va_get (D := D) (ci := 5) (v := .ref p0) (C := RX4) (T := TX4) (N := 7) hx hb hts iw_X4_makeRow_X4 hown hK hP 0 rfl rfl 0 (by decide) (hts _ lk_X4_makeRow_f21) (fun _ h9 => h9) rfl dX4_makeRow_100 ?_
  refine lv_iload_n hx hb dX4_makeRow_103 rfl (lv_at hl 0 rfl) ?_
  refine lv_iconst (v := 1) hx hb dX4_makeRow_104 (by decide) ?_
  refine lv_iadd hx hb dX4_makeRow_105 ?_
  refine lv_topi (fun x_105 ex_105 => ?_)
  obtain rfl : x_105 = nI ((ct + sk) % pC) + nI 1 := by rw [ex_105]; rfl
  have hPc := hP.sub (ws' := [(p0, .inr (3, [.int (nI pB), .int (nI pS), .int (nI pG), .int (nI pE), .int (nI pC), .int (nI pO)]))]) [3] rfl
  have hDc := hD.sub (ws' := [(p0, .inr (3, [.int (nI pB), .int (nI pS), .int (nI pG), .int (nI pE), .int (nI pC), .int (nI pO)]))]) [3] (by decide) rfl
  have hFc := va_free (wc := [(p0, .inr (3, [.int (nI pB), .int (nI pS), .int (nI pG), .int (nI pE), .int (nI pC), .int (nI pO)]))]) hD hS hA [3] rfl
  refine va_calli (va_runV (As := [.int (nI ((ct + sk) % pC) + nI 1)]) (rest := [.ref h0]) ⟨hx, hb, hml, hown, hts⟩ (c_X2_goingRound l D cy H.size p0 pB pS pG pE pC pO (nI ((ct + sk) % pC) + nI 1) hpv.2.2.2.2.1 hpv.2.2.2.2.2.1) (cwV 1 hts gX4_makeRow_X2_goingRound rfl rfl rfl (by decide +kernel) ⟨Nat.le_of_ble_eq_true rfl, Nat.le_of_ble_eq_true rfl⟩) (pv_V (ci := 3) (q := (RX2, TX2, 6)) hkk hPc hDc rfl rfl rfl) rfl rfl hl.1 rfl (lv_room (Nat.le_of_ble_eq_true rfl)) dX4_makeRow_106 ⟨Nat.le_of_ble_eq_true rfl, Nat.le_of_ble_eq_true rfl⟩) hS (fun q _ h => hFc q h) hFc (fun r_106 u t H1 locs ht hvm hw hB hz1 hk1 hS => ?_)
  obtain ⟨hP1, hD1⟩ := hB
  rw [ht] at hP1
  try dsimp only at hw hP1 hD1
  obtain ⟨hP, hD⟩ := va_join (wr := [(h0, .inr (5, [.ref p0, .ref d0, .ref r0, .int (nI ct), .int (nI fp), .int fk, .int (nI sk)])), (d0, .inr (2, [.ref d1, .int (nI n)])), (d1, .inl (cy 0, 70, .inl f)), (r0, .inr (2, [.ref r1, .int (nI ((pO + n) + (pB / 8)))])), (r1, .inl (cy 0, 70, .inl (oc_flip f2_80 ((pO + n) + (pB / 8)) (nI fp) fk)))]) (w1 := [(p0, .inr (3, [.int (nI pB), .int (nI pS), .int (nI pG), .int (nI pE), .int (nI pC), .int (nI pO)]))]) hP hD [3] [0, 1, 2, 4, 5] rfl rfl (by decide) (by decide) hk1 hFc hP1 hD1
  clear hPc hDc hFc hP1 hD1 hz1 hk1
  generalize H1 = H at hP hS ⊢
  have hP : va_P D vwCl [(h0, .inr (5, [.ref p0, .ref d0, .ref r0, .int (nI ct), .int (nI fp), .int fk, .int (nI sk)])), (d0, .inr (2, [.ref d1, .int (nI n)])), (d1, .inl (cy 0, 70, .inl f)), (r0, .inr (2, [.ref r1, .int (nI ((pO + n) + (pB / 8)))])), (r1, .inl (cy 0, 70, .inl (oc_flip f2_80 ((pO + n) + (pB / 8)) (nI fp) fk))), (p0, .inr (3, [.int (nI pB), .int (nI pS), .int (nI pG), .int (nI pE), .int (nI pC), .int (nI pO)]))] H := hP
  have hD : va_D A [(h0, .inr (5, [.ref p0, .ref d0, .ref r0, .int (nI ct), .int (nI fp), .int fk, .int (nI sk)])), (d0, .inr (2, [.ref d1, .int (nI n)])), (d1, .inl (cy 0, 70, .inl f)), (r0, .inr (2, [.ref r1, .int (nI ((pO + n) + (pB / 8)))])), (r1, .inl (cy 0, 70, .inl (oc_flip f2_80 ((pO + n) + (pB / 8)) (nI fp) fk))), (p0, .inr (3, [.int (nI pB), .int (nI pS), .int (nI pG), .int (nI pE), .int (nI pC), .int (nI pO)]))] := hD
  obtain rfl := hw
  refine lv_topi (fun x_106 ex_106 => ?_)
  obtain rfl : x_106 = nI (((ct + sk) % pC + 1) % pC) := by rw [ex_106]; exact fm_add (b := 1) (by omega) (by decide) hC0 hC9
  refine va_put (D := D) (ci := 5) (v := .int (nI (((ct + sk) % pC + 1) % pC))) (ty := .int) (C := RX4) (T := TX4) (N := 7) hx hb hts iw_X4_makeRow_X4 tyX4 tyX4_ok nmX4 hown hK hP hD hS 0 rfl rfl 3 (by decide) (hts _ lk_X4_makeRow_f42) (fun _ h9 => h9) rfl (by decide +kernel) rfl rfl (Nat.le_of_ble_eq_true rfl) dX4_makeRow_109 (fun H locs hP hD hS => ?_)
  have hP : va_P D vwCl [(h0, .inr (5, [.ref p0, .ref d0, .ref r0, .int (nI (((ct + sk) % pC + 1) % pC)), .int (nI fp), .int fk, .int (nI sk)])), (d0, .inr (2, [.ref d1, .int (nI n)])), (d1, .inl (cy 0, 70, .inl f)), (r0, .inr (2, [.ref r1, .int (nI ((pO + n) + (pB / 8)))])), (r1, .inl (cy 0, 70, .inl (oc_flip f2_80 ((pO + n) + (pB / 8)) (nI fp) fk))), (p0, .inr (3, [.int (nI pB), .int (nI pS), .int (nI pG), .int (nI pE), .int (nI pC), .int (nI pO)]))] H := hP
  have hD : va_D A [(h0, .inr (5, [.ref p0, .ref d0, .ref r0, .int (nI (((ct + sk) % pC + 1) % pC)), .int (nI fp), .int fk, .int (nI sk)])), (d0, .inr (2, [.ref d1, .int (nI n)])), (d1, .inl (cy 0, 70, .inl f)), (r0, .inr (2, [.ref r1, .int (nI ((pO + n) + (pB / 8)))])), (r1, .inl (cy 0, 70, .inl (oc_flip f2_80 ((pO + n) + (pB / 8)) (nI fp) fk))), (p0, .inr (3, [.int (nI pB), .int (nI pS), .int (nI pG), .int (nI pE), .int (nI pC), .int (nI pO)]))] := hD
  refine lv_aload_n hx hb dX4_makeRow_112 rfl (lv_at hl 1 rfl) ?_
  refine va_get (D := D) (ci := 5) (v := .ref d0) (C := RX4) (T := TX4) (N := 7) hx hb hts iw_X4_makeRow_X4 hown hK hP 0 rfl rfl 1 (by decide) (hts _ lk_X4_makeRow_f12) (fun _ h9 => h9) rfl dX4_makeRow_113 ?_
  have hPc := hP.sub (ws' := [(d0, .inr (2, [.ref d1, .int (nI n)])), (d1, .inl (cy 0, 70, .inl f))]) [1, 2] rfl
  have hDc := hD.sub (ws' := [(d0, .inr (2, [.ref d1, .int (nI n)])), (d1, .inl (cy 0, 70, .inl f))]) [1, 2] (by decide) rfl
  have hFc := va_free (wc := [(d0, .inr (2, [.ref d1, .int (nI n)])), (d1, .inl (cy 0, 70, .inl f))]) hD hS hA [1, 2] rfl
  refine va_callv (va_runV (As := []) (rest := []) ⟨hx, hb, hml, hown, hts⟩ (c_X1_clear l D cy H.size d0 d1 f n ) (cwV 0 hts gX4_makeRow_X1_clear rfl rfl rfl (by decide +kernel) ⟨Nat.le_of_ble_eq_true rfl, Nat.le_of_ble_eq_true rfl⟩) (pv_V (ci := 2) (q := (RX1, TX1, 2)) hkk hPc hDc rfl rfl rfl) rfl rfl hl.1 rfl (lv_room (Nat.le_of_ble_eq_true rfl)) dX4_makeRow_116 ⟨Nat.le_of_ble_eq_true rfl, Nat.le_of_ble_eq_true rfl⟩) hS (fun q _ h => hFc q h) hFc (fun u t H1 locs ht hvm hw hB hz1 hk1 hS => ?_)
  obtain ⟨hP1, hD1⟩ := hB
  rw [ht] at hP1
  try dsimp only at hw hP1 hD1
  obtain ⟨hP, hD⟩ := va_join (wr := [(h0, .inr (5, [.ref p0, .ref d0, .ref r0, .int (nI (((ct + sk) % pC + 1) % pC)), .int (nI fp), .int fk, .int (nI sk)])), (r0, .inr (2, [.ref r1, .int (nI ((pO + n) + (pB / 8)))])), (r1, .inl (cy 0, 70, .inl (oc_flip f2_80 ((pO + n) + (pB / 8)) (nI fp) fk))), (p0, .inr (3, [.int (nI pB), .int (nI pS), .int (nI pG), .int (nI pE), .int (nI pC), .int (nI pO)]))]) (w1 := [(d0, .inr (2, [.ref d1, .int (nI 0)])), (d1, .inl (cy 0, 70, .inl f))]) hP hD [1, 2] [0, 3, 4, 5] rfl rfl (by decide) (by decide) hk1 hFc hP1 hD1
  clear hPc hDc hFc hP1 hD1 hz1 hk1
  generalize H1 = H at hP hS ⊢
  have hP : va_P D vwCl [(h0, .inr (5, [.ref p0, .ref d0, .ref r0, .int (nI (((ct + sk) % pC + 1) % pC)), .int (nI fp), .int fk, .int (nI sk)])), (r0, .inr (2, [.ref r1, .int (nI ((pO + n) + (pB / 8)))])), (r1, .inl (cy 0, 70, .inl (oc_flip f2_80 ((pO + n) + (pB / 8)) (nI fp) fk))), (p0, .inr (3, [.int (nI pB), .int (nI pS), .int (nI pG), .int (nI pE), .int (nI pC), .int (nI pO)])), (d0, .inr (2, [.ref d1, .int (nI 0)])), (d1, .inl (cy 0, 70, .inl f))] H := hP
  have hD : va_D A [(h0, .inr (5, [.ref p0, .ref d0, .ref r0, .int (nI (((ct + sk) % pC + 1) % pC)), .int (nI fp), .int fk, .int (nI sk)])), (r0, .inr (2, [.ref r1, .int (nI ((pO + n) + (pB / 8)))])), (r1, .inl (cy 0, 70, .inl (oc_flip f2_80 ((pO + n) + (pB / 8)) (nI fp) fk))), (p0, .inr (3, [.int (nI pB), .int (nI pS), .int (nI pG), .int (nI pE), .int (nI pC), .int (nI pO)])), (d0, .inr (2, [.ref d1, .int (nI 0)])), (d1, .inl (cy 0, 70, .inl f))] := hD
  have hw_116 := hw
  refine lv_aload_n hx hb dX4_makeRow_119 rfl (lv_at hl 1 rfl) ?_
  refine lv_iconst (v := 0) hx hb dX4_makeRow_120 (by decide) ?_
  refine va_put (D := D) (ci := 5) (v := .int 0) (ty := .int) (C := RX4) (T := TX4) (N := 7) hx hb hts iw_X4_makeRow_X4 tyX4 tyX4_ok nmX4 hown hK hP hD hS 0 rfl rfl 5 (by decide) (hts _ lk_X4_makeRow_f36) (fun _ h9 => h9) rfl (by decide +kernel) rfl rfl (Nat.le_of_ble_eq_true rfl) dX4_makeRow_121 (fun H locs hP hD hS => ?_)
  have hP : va_P D vwCl [(h0, .inr (5, [.ref p0, .ref d0, .ref r0, .int (nI (((ct + sk) % pC + 1) % pC)), .int (nI fp), .int 0, .int (nI sk)])), (r0, .inr (2, [.ref r1, .int (nI ((pO + n) + (pB / 8)))])), (r1, .inl (cy 0, 70, .inl (oc_flip f2_80 ((pO + n) + (pB / 8)) (nI fp) fk))), (p0, .inr (3, [.int (nI pB), .int (nI pS), .int (nI pG), .int (nI pE), .int (nI pC), .int (nI pO)])), (d0, .inr (2, [.ref d1, .int (nI 0)])), (d1, .inl (cy 0, 70, .inl f))] H := hP
  have hD : va_D A [(h0, .inr (5, [.ref p0, .ref d0, .ref r0, .int (nI (((ct + sk) % pC + 1) % pC)), .int (nI fp), .int 0, .int (nI sk)])), (r0, .inr (2, [.ref r1, .int (nI ((pO + n) + (pB / 8)))])), (r1, .inl (cy 0, 70, .inl (oc_flip f2_80 ((pO + n) + (pB / 8)) (nI fp) fk))), (p0, .inr (3, [.int (nI pB), .int (nI pS), .int (nI pG), .int (nI pE), .int (nI pC), .int (nI pO)])), (d0, .inr (2, [.ref d1, .int (nI 0)])), (d1, .inl (cy 0, 70, .inl f))] := hD
  refine lv_aload_n hx hb dX4_makeRow_124 rfl (lv_at hl 1 rfl) ?_
  refine lv_iconst (v := 0) hx hb dX4_makeRow_125 (by decide) ?_
  refine lv_topi (fun x_125 ex_125 => ?_)
  obtain rfl : x_125 = nI 0 := by rw [ex_125]; exact nI_0.symm
  refine va_put (D := D) (ci := 5) (v := .int (nI 0)) (ty := .int) (C := RX4) (T := TX4) (N := 7) hx hb hts iw_X4_makeRow_X4 tyX4 tyX4_ok nmX4 hown hK hP hD hS 0 rfl rfl 6 (by decide) (hts _ lk_X4_makeRow_f39) (fun _ h9 => h9) rfl (by decide +kernel) rfl rfl (Nat.le_of_ble_eq_true rfl) dX4_makeRow_126 (fun H locs hP hD hS => ?_)
  have hP : va_P D vwCl [(h0, .inr (5, [.ref p0, .ref d0, .ref r0, .int (nI (((ct + sk) % pC + 1) % pC)), .int (nI fp), .int 0, .int (nI 0)])), (r0, .inr (2, [.ref r1, .int (nI ((pO + n) + (pB / 8)))])), (r1, .inl (cy 0, 70, .inl (oc_flip f2_80 ((pO + n) + (pB / 8)) (nI fp) fk))), (p0, .inr (3, [.int (nI pB), .int (nI pS), .int (nI pG), .int (nI pE), .int (nI pC), .int (nI pO)])), (d0, .inr (2, [.ref d1, .int (nI 0)])), (d1, .inl (cy 0, 70, .inl f))] H := hP
  have hD : va_D A [(h0, .inr (5, [.ref p0, .ref d0, .ref r0, .int (nI (((ct + sk) % pC + 1) % pC)), .int (nI fp), .int 0, .int (nI 0)])), (r0, .inr (2, [.ref r1, .int (nI ((pO + n) + (pB / 8)))])), (r1, .inl (cy 0, 70, .inl (oc_flip f2_80 ((pO + n) + (pB / 8)) (nI fp) fk))), (p0, .inr (3, [.int (nI pB), .int (nI pS), .int (nI pG), .int (nI pE), .int (nI pC), .int (nI pO)])), (d0, .inr (2, [.ref d1, .int (nI 0)])), (d1, .inl (cy 0, 70, .inl f))] := hD
  refine lv_aload_n hx hb dX4_makeRow_129 rfl (lv_at hl 1 rfl) ?_
  refine va_get (D := D) (ci := 5) (v := .ref r0) (C := RX4) (T := TX4) (N := 7) hx hb hts iw_X4_makeRow_X4 hown hK hP 0 rfl rfl 2 (by decide) (hts _ lk_X4_makeRow_f18) (fun _ h9 => h9) rfl dX4_makeRow_130 ?_
  refine va_getN (D := D) (ci := 2) (v := .int (nI ((pO + n) + (pB / 8)))) (C := RX1) (T := TX1) (N := 2) hx hb hts iw_X4_makeRow_X1 hown hK hP 1 rfl rfl 1 (by decide) (nw_use 3 rfl rfl hkk.2) (fun _ h9 => h9) rfl dX4_makeRow_133 ?_
  have hP9 := hP.sub (ws' := [(h0, .inr (5, [.ref p0, .ref d0, .ref r0, .int (nI (((ct + sk) % pC + 1) % pC)), .int (nI fp), .int 0, .int (nI 0)])), (p0, .inr (3, [.int (nI pB), .int (nI pS), .int (nI pG), .int (nI pE), .int (nI pC), .int (nI pO)])), (d0, .inr (2, [.ref d1, .int (nI 0)])), (d1, .inl (cy 0, 70, .inl f)), (r0, .inr (2, [.ref r1, .int (nI ((pO + n) + (pB / 8)))])), (r1, .inl (cy 0, 70, .inl (oc_flip f2_80 ((pO + n) + (pB / 8)) (nI fp) fk)))]) [0, 3, 4, 5, 1, 2] rfl
  have hD9 := hD.sub (ws' := [(h0, .inr (5, [.ref p0, .ref d0, .ref r0, .int (nI (((ct + sk) % pC + 1) % pC)), .int (nI fp), .int 0, .int (nI 0)])), (p0, .inr (3, [.int (nI pB), .int (nI pS), .int (nI pG), .int (nI pE), .int (nI pC), .int (nI pO)])), (d0, .inr (2, [.ref d1, .int (nI 0)])), (d1, .inl (cy 0, 70, .inl f)), (r0, .inr (2, [.ref r1, .int (nI ((pO + n) + (pB / 8)))])), (r1, .inl (cy 0, 70, .inl (oc_flip f2_80 ((pO + n) + (pB / 8)) (nI fp) fk)))]) [0, 3, 4, 5, 1, 2] (by decide) rfl
  exact W.iret (v := nI ((pO + n) + (pB / 8))) hx hb hr (fun t ht hW => ⟨⟨nI ((pO + n) + (pB / 8)), oc_flip f2_80 ((pO + n) + (pB / 8)) (nI fp) fk, rfl, ⟨rfl, flp_is (by omega) hfp hr9⟩, by rw [ht]; exact hP9, hD9⟩, hS.F ht⟩) hS.2.2 dX4_makeRow_136
end
section
/-! DataGuards: what its calls answer and leave. -/
def idy (x : Int32) : Int32 := if ¬ x < 0 ∧ ¬ 65535 < x then 1 else 0
theorem idy_no {x : Int32} (h : idy x = 0) : ¬ (¬ x < 0 ∧ ¬ 65535 < x) := by
  intro q
  unfold idy at h
  rw [if_pos q] at h
  exact absurd h (by decide)
theorem idy_yes {x : Int32} (h : ¬ idy x = 0) : ∃ d, d < 65536 ∧ x = nI d := by
  have q : ¬ x < 0 ∧ ¬ 65535 < x := Classical.byContradiction fun q => h (by unfold idy; rw [if_neg q])
  obtain ⟨d, hd, e⟩ := nI_of2 (x := x) (M := 65535) (n := 65535) (by decide) q.1 (Int32.not_lt.mp q.2)
  exact ⟨d, by omega, e⟩
theorem idy_nI {d : Nat} (h : d < 65536) : ¬ idy (nI d) = 0 := by
  unfold idy
  rw [if_pos ⟨nI_pos (by omega), by rw [show (65535 : Int32) = nI 65535 by decide]; exact nI_nlt (by omega) (by decide)⟩]
  decide
/-- an octet more -/
def gpu (g : Nat → Nat) (n : Nat) (x : Int32) : Nat → Nat := fun j => if j = n then m8 x else g j
theorem b_m8 (x : Int32) : x.toInt8.toInt32 = sb_b (m8 x) := by
  have h := xor_b (a := 0) x (by decide)
  rw [Nat.zero_xor] at h
  rw [← h]
  congr 2
  show x = sb_b 0 ^^^ x
  rw [show sb_b 0 = 0 by decide, Int32.zero_xor]
theorem oc_is_push {f f2 : Nat → Int32} {n n2 : Nat} {g : Nat → Nat} {tm tm2 x : Int32} (hg : oc_is f n g) (hn : n ≤ 70) (h : rc_col f n tm x f2 n2 tm2) : oc_is f2 n2 (gpu g n x) ∧ n2 ≤ 70 := by
  rcases h with ⟨h1, rfl, rfl, rfl⟩ | ⟨h1, rfl, rfl, rfl⟩
  · refine ⟨fun j hj => ?_, by omega⟩
    unfold gpu
    by_cases e : j = n
    · subst e
      rw [pk_us, if_pos rfl]
      exact ⟨b_m8 x, Nat.mod_lt _ (by decide)⟩
    · rw [pk_un e, if_neg e]; exact hg j (by omega)
  · refine ⟨fun j hj => ?_, hn⟩
    unfold gpu
    rw [if_neg (by omega)]; exact hg j hj
/-- the end of a row at the receiver: what is found, and what it leaves -/
def eor (pB pS pG pE pC pO d n : Nat) (g : Nat → Nat) (tm cbf : Int32) (hf : Nat → Int32) (w : Nat) (gr bt jo : Int32) (tt tg : Int64) (res cb2 : Int32) (hf2 : Nat → Int32) (w2 : Nat) (gr2 bt2 jo2 : Int32) (tg2 : Int64) : Prop :=
  res = (if rc_err pB pS pG pE pC pO d n g tm = 0 then rc_fd cbf (nI (be g 0 pO)) pC else 4) ∧ cb2 = (if rc_err pB pS pG pE pC pO d n g tm = 0 then nI (be g 0 pO) else cbf) ∧ (∀ j, j < 10 → hf2 j = hi_s hf res j) ∧ w2 = min (w + 1) 10 ∧ gr2 = (if sd res = 1 then gr + 1 else gr) ∧ bt2 = bt ||| (1 <<< (res &&& 31)) ∧ jo2 = hi_j hf2 w2 (if jo = 0 then 1 else jo) ∧ tg2 = (if sd res = 1 then tt else tg)
/-- the row that protect makes -/
def rowv (pB pS pG pE pO d n u fp : Nat) (fk : Int32) (g : Nat → Nat) : Nat → Nat := flp fp (m8 fk) (rwv (pO + n) (pB / 8) (ck pB pS pG pE d (hdr pO u g) (pO + n)) (hdr pO u g))
def dpro (pB pS pG pE pC pO n rn ct fp sk : Nat) (rf : Nat → Int32) (fk i : Int32) (g : Nat → Nat) (res : Int32) (f2 : Nat → Int32) (n2 rn2 ct2 : Nat) (fk2 : Int32) (sk2 : Nat) : Prop :=
  (idy i = 0 ∧ res = -2 ∧ f2 = rf ∧ n2 = n ∧ rn2 = rn ∧ ct2 = ct ∧ fk2 = fk ∧ sk2 = sk) ∨
  (∃ d, d < 65536 ∧ i = nI d ∧ res = nI (pO + n + pB / 8) ∧ oc_is f2 (pO + n + pB / 8) (rowv pB pS pG pE pO d n ((ct + sk) % pC) fp fk g) ∧ n2 = 0 ∧ rn2 = pO + n + pB / 8 ∧ ct2 = ((ct + sk) % pC + 1) % pC ∧ fk2 = 0 ∧ sk2 = 0)
def dpl (k x y : Int32) (fp sk : Nat) (fk res : Int32) (fp2 sk2 : Nat) (fk2 : Int32) : Prop :=
  (¬ k = 0 ∧ ¬ k = 1 ∧ res = -1 ∧ fp2 = fp ∧ sk2 = sk ∧ fk2 = fk) ∨ ((k = 0 ∨ k = 1) ∧ (x < 0 ∨ ¬ x ≤ 100) ∧ res = -2 ∧ fp2 = fp ∧ sk2 = sk ∧ fk2 = fk) ∨
  (∃ a, a ≤ 100 ∧ x = nI a ∧ k = 0 ∧ res = 1 ∧ fp2 = a ∧ sk2 = sk ∧ fk2 = y) ∨ (∃ a, a ≤ 100 ∧ x = nI a ∧ k = 1 ∧ res = 1 ∧ fp2 = fp ∧ sk2 = a ∧ fk2 = fk)
theorem at_100 {x : Int32} (h0 : ¬ x < 0) (h : x ≤ 100) : ∃ a, a ≤ 100 ∧ x = nI a := by
  obtain ⟨a, ha, e⟩ := nI_of2 (x := x) (M := 100) (n := 100) (by decide) h0 h
  exact ⟨a, ha, e⟩
def drc (t tt tg : Int64) (jo res : Int32) (tt2 : Int64) : Prop := (t < tt ∧ res = -2 ∧ tt2 = tt) ∨ (¬ t < tt ∧ tt2 = t ∧ res = if 100 ≤ t - tg ∨ jo = 3 then 1 else 0)
def pol (x : Int32) : Int32 := if x = 8 then 29 else if x = 16 then 4129 else if x = 32 then -189989101 else -1
def dchk (pB pS pG pE pC pO : Nat) (ef : Nat → Int32) (en : Nat) (eg : Nat → Nat) (tm cbf : Int32) (hf : Nat → Int32) (w : Nat) (gr bt jo : Int32) (tt tg : Int64) (i x la res : Int32) (ef2 : Nat → Int32) (en2 : Nat) (tm2 cb2 : Int32) (hf2 : Nat → Int32) (w2 : Nat) (gr2 bt2 jo2 : Int32) (tg2 : Int64) : Prop :=
  (¬ la = 0 ∧ idy i = 0 ∧ res = -2 ∧ ef2 = ef ∧ en2 = en ∧ tm2 = tm ∧ cb2 = cbf ∧ hf2 = hf ∧ w2 = w ∧ gr2 = gr ∧ bt2 = bt ∧ jo2 = jo ∧ tg2 = tg) ∨
  (la = 0 ∧ res = 0 ∧ rc_col ef en tm x ef2 en2 tm2 ∧ cb2 = cbf ∧ hf2 = hf ∧ w2 = w ∧ gr2 = gr ∧ bt2 = bt ∧ jo2 = jo ∧ tg2 = tg) ∨
  (¬ la = 0 ∧ ∃ d, d < 65536 ∧ i = nI d ∧ en2 = 0 ∧ tm2 = 0 ∧ ∃ (fa : Nat → Int32) (na : Nat) (ta : Int32), rc_col ef en tm x fa na ta ∧ eor pB pS pG pE pC pO d na (gpu eg en x) ta cbf hf w gr bt jo tt tg res cb2 hf2 w2 gr2 bt2 jo2 tg2)
theorem hi_e_n (bt i : Int32) : narrow .boolean (.int (hi_e bt i)) = .int (hi_e bt i) := by
  unfold hi_e
  split <;> rfl
end
section
theorem lk_X5_isIdentity_k116 : (.constant RX5 116 (65535) : Cond) ∈ wsX5_isIdentity := by decide +kernel
set_option maxHeartbeats 4000000 in
set_option maxRecDepth 100000 in
theorem c_X5_isIdentity (l : Launch) (D : va_G) (cy : Nat → ClassId) (sz : Nat) (x : Int32)  : Met l yX5_isIdentity wsX5_isIdentity ({ frames := 0, cells := 0, slots := 0, locals := 0 } : Room) (pre1 D cy [.int x] [] sz) (va_Qi (fun (r : Int32) (u : Unit) => r = idy x) (fun u t => va_P D vwCl [] t.heap ∧ va_D (va_A [] sz) []) (va_A [] sz)) 0 0 (va_A [] sz) := by
  refine Met.ofW (cc := cX5_isIdentity) (maxL := 1) (ret := (some .boolean)) (by decide) rfl ?_
  intro p e s m args below meth c s₁ B hml hv
  obtain ⟨rfl, hsz, hP, hkk, hD0⟩ := hv
  have hx := B.exec
  have hb := B.bytes
  have hr := B.returns
  have hts := atoms_spec (ws := wsX5_isIdentity) B.pre
  have hown : s.vm.findClass RX5 = some m.cls := findClass_of_methodNamed B.named
  have hlocks := B.notSynchronized
  have hin : meth.name = _ := (name_of_methodNamed B.named B.method).1
  have hK := hkk.1
  subst hsz
  have hD := hD0.self (sz := s.heap.size)
  generalize hAe : va_A [] s.heap.size = A at hD ⊢
  have hA : ∀ q : Nat, s.heap.size ≤ q → A q := fun q h => by rw [← hAe]; exact Or.inr h
  have hS : va_S A s.heap s.heap [] := va_S.rf
  have hP : va_P D vwCl [] s.heap := hP
  have hl := lv_entry ([.int x]) (n := 1) (Nat.le_of_ble_eq_true rfl)
  rw [lg_entry_eq]
  generalize (lg_sl ([.int x]) ++ List.replicate (1 - (lg_sl ([.int x])).length) Slot.unset).toArray = ls at hl ⊢
  have hl : lv_has ls 1 [(0, .int x)] := hl
  refine lv_iload_n hx hb dX5_isIdentity_0 rfl (lv_at hl 0 rfl) ?_
  refine lv_if_lt (tgt := 14) hx hb dX5_isIdentity_1 (by decide) (fun c_1 => ?_) (fun c_1 => ?_)
  · refine lv_iconst (v := 0) hx hb dX5_isIdentity_14 (by decide) ?_
    have hP9 := hP.sub (ws' := []) [] rfl
    have hD9 := hD.sub (ws' := []) [] (by decide) rfl
    exact W.zret (v := 0) hx hb hr rfl (fun t ht hW => ⟨⟨0, (), rfl, by unfold idy; rw [if_neg (fun q => q.1 c_1)], by rw [ht]; exact hP9, hD9⟩, hS.F ht⟩) hS.2.2 dX5_isIdentity_15
  · refine lv_iload_n hx hb dX5_isIdentity_4 rfl (lv_at hl 0 rfl) ?_
    refine lv_ldc (v := 65535) hx hb hown (hts _ lk_X5_isIdentity_k116) dX5_isIdentity_5 ?_
    refine lv_icmp_gt (tgt := 14) hx hb dX5_isIdentity_7 (by decide) (fun c_7 => ?_) (fun c_7 => ?_)
    · refine lv_iconst (v := 0) hx hb dX5_isIdentity_14 (by decide) ?_
      have hP9 := hP.sub (ws' := []) [] rfl
      have hD9 := hD.sub (ws' := []) [] (by decide) rfl
      exact W.zret (v := 0) hx hb hr rfl (fun t ht hW => ⟨⟨0, (), rfl, by unfold idy; rw [if_neg (fun q => q.2 c_7)], by rw [ht]; exact hP9, hD9⟩, hS.F ht⟩) hS.2.2 dX5_isIdentity_15
    · refine lv_iconst (v := 1) hx hb dX5_isIdentity_10 (by decide) ?_
      refine lv_goto (tgt := 15) hx hb dX5_isIdentity_11 (by decide) ?_
      have hP9 := hP.sub (ws' := []) [] rfl
      have hD9 := hD.sub (ws' := []) [] (by decide) rfl
      exact W.zret (v := 1) hx hb hr rfl (fun t ht hW => ⟨⟨1, (), rfl, by unfold idy; rw [if_pos ⟨c_1, c_7⟩], by rw [ht]; exact hP9, hD9⟩, hS.F ht⟩) hS.2.2 dX5_isIdentity_15

theorem iw_X5_octet_X5 : ∀ w ∈ wsX50, w ∈ wsX5_octet := by decide +kernel
theorem lk_X5_octet_f18 : (.fieldLink RX5 18 "DataGuards" "sender" "LDataGuards$Sender;" : Cond) ∈ wsX5_octet := by decide +kernel
set_option maxHeartbeats 4000000 in
set_option maxRecDepth 100000 in
theorem c_X5_octet (l : Launch) (D : va_G) (cy : Nat → ClassId) (sz : Nat) (h0 : Nat) (s0 : Nat) (v0 : Nat) (i0 : Nat) (p0 : Nat) (d0 : Nat) (d1 : Nat) (r0 : Nat) (r1 : Nat) (e0 : Nat) (e1 : Nat) (i1 : Nat) (tt : Int64) (tg : Int64) (ct : Nat) (fp : Nat) (fk : Int32) (sk : Nat) (pB : Nat) (pS : Nat) (pG : Nat) (pE : Nat) (pC : Nat) (pO : Nat) (f : Nat → Int32) (n : Nat) (rf : Nat → Int32) (rn : Nat) (tm : Int32) (cbf : Int32) (ef : Nat → Int32) (en : Nat) (hf : Nat → Int32) (w : Nat) (gr : Int32) (bt : Int32) (jo : Int32) (x : Int32) (hn : n ≤ 64) : Met l yX5_octet wsX5_octet ({ frames := 2, cells := 0, slots := 0, locals := 42 } : Room) (pre1 D cy [.ref h0, .int x] [(h0, .inr (6, [.ref s0, .ref v0, .ref i0, .long tt, .long tg])), (s0, .inr (5, [.ref p0, .ref d0, .ref r0, .int (nI ct), .int (nI fp), .int fk, .int (nI sk)])), (p0, .inr (3, [.int (nI pB), .int (nI pS), .int (nI pG), .int (nI pE), .int (nI pC), .int (nI pO)])), (d0, .inr (2, [.ref d1, .int (nI n)])), (d1, .inl (cy 0, 70, .inl f)), (r0, .inr (2, [.ref r1, .int (nI rn)])), (r1, .inl (cy 0, 70, .inl rf)), (v0, .inr (4, [.ref p0, .ref e0, .int tm, .int cbf])), (e0, .inr (2, [.ref e1, .int (nI en)])), (e1, .inl (cy 0, 70, .inl ef)), (i0, .inr (1, [.ref i1, .int (nI w), .int gr, .int bt, .int jo])), (i1, .inl (cy 1, 10, .inl hf))] sz) (va_Qv (fun (u : (Nat → Int32) × (Nat)) => (sc_col f n x u.1 u.2)) (fun u t => va_P D vwCl [(h0, .inr (6, [.ref s0, .ref v0, .ref i0, .long tt, .long tg])), (s0, .inr (5, [.ref p0, .ref d0, .ref r0, .int (nI ct), .int (nI fp), .int fk, .int (nI sk)])), (p0, .inr (3, [.int (nI pB), .int (nI pS), .int (nI pG), .int (nI pE), .int (nI pC), .int (nI pO)])), (d0, .inr (2, [.ref d1, .int (nI u.2)])), (d1, .inl (cy 0, 70, .inl u.1)), (r0, .inr (2, [.ref r1, .int (nI rn)])), (r1, .inl (cy 0, 70, .inl rf)), (v0, .inr (4, [.ref p0, .ref e0, .int tm, .int cbf])), (e0, .inr (2, [.ref e1, .int (nI en)])), (e1, .inl (cy 0, 70, .inl ef)), (i0, .inr (1, [.ref i1, .int (nI w), .int gr, .int bt, .int jo])), (i1, .inl (cy 1, 10, .inl hf))] t.heap ∧ va_D (va_A [(h0, .inr (6, [.ref s0, .ref v0, .ref i0, .long tt, .long tg])), (s0, .inr (5, [.ref p0, .ref d0, .ref r0, .int (nI ct), .int (nI fp), .int fk, .int (nI sk)])), (p0, .inr (3, [.int (nI pB), .int (nI pS), .int (nI pG), .int (nI pE), .int (nI pC), .int (nI pO)])), (d0, .inr (2, [.ref d1, .int (nI n)])), (d1, .inl (cy 0, 70, .inl f)), (r0, .inr (2, [.ref r1, .int (nI rn)])), (r1, .inl (cy 0, 70, .inl rf)), (v0, .inr (4, [.ref p0, .ref e0, .int tm, .int cbf])), (e0, .inr (2, [.ref e1, .int (nI en)])), (e1, .inl (cy 0, 70, .inl ef)), (i0, .inr (1, [.ref i1, .int (nI w), .int gr, .int bt, .int jo])), (i1, .inl (cy 1, 10, .inl hf))] sz) [(h0, .inr (6, [.ref s0, .ref v0, .ref i0, .long tt, .long tg])), (s0, .inr (5, [.ref p0, .ref d0, .ref r0, .int (nI ct), .int (nI fp), .int fk, .int (nI sk)])), (p0, .inr (3, [.int (nI pB), .int (nI pS), .int (nI pG), .int (nI pE), .int (nI pC), .int (nI pO)])), (d0, .inr (2, [.ref d1, .int (nI u.2)])), (d1, .inl (cy 0, 70, .inl u.1)), (r0, .inr (2, [.ref r1, .int (nI rn)])), (r1, .inl (cy 0, 70, .inl rf)), (v0, .inr (4, [.ref p0, .ref e0, .int tm, .int cbf])), (e0, .inr (2, [.ref e1, .int (nI en)])), (e1, .inl (cy 0, 70, .inl ef)), (i0, .inr (1, [.ref i1, .int (nI w), .int gr, .int bt, .int jo])), (i1, .inl (cy 1, 10, .inl hf))]) (va_A [(h0, .inr (6, [.ref s0, .ref v0, .ref i0, .long tt, .long tg])), (s0, .inr (5, [.ref p0, .ref d0, .ref r0, .int (nI ct), .int (nI fp), .int fk, .int (nI sk)])), (p0, .inr (3, [.int (nI pB), .int (nI pS), .int (nI pG), .int (nI pE), .int (nI pC), .int (nI pO)])), (d0, .inr (2, [.ref d1, .int (nI n)])), (d1, .inl (cy 0, 70, .inl f)), (r0, .inr (2, [.ref r1, .int (nI rn)])), (r1, .inl (cy 0, 70, .inl rf)), (v0, .inr (4, [.ref p0, .ref e0, .int tm, .int cbf])), (e0, .inr (2, [.ref e1, .int (nI en)])), (e1, .inl (cy 0, 70, .inl ef)), (i0, .inr (1, [.ref i1, .int (nI w), .int gr, .int bt, .int jo])), (i1, .inl (cy 1, 10, .inl hf))] sz)) 0 0 (va_A [(h0, .inr (6, [.ref s0, .ref v0, .ref i0, .long tt, .long tg])), (s0, .inr (5, [.ref p0, .ref d0, .ref r0, .int (nI ct), .int (nI fp), .int fk, .int (nI sk)])), (p0, .inr (3, [.int (nI pB), .int (nI pS), .int (nI pG), .int (nI pE), .int (nI pC), .int (nI pO)])), (d0, .inr (2, [.ref d1, .int (nI n)])), (d1, .inl (cy 0, 70, .inl f)), (r0, .inr (2, [.ref r1, .int (nI rn)])), (r1, .inl (cy 0, 70, .inl rf)), (v0, .inr (4, [.ref p0, .ref e0, .int tm, .int cbf])), (e0, .inr (2, [.ref e1, .int (nI en)])), (e1, .inl (cy 0, 70, .inl ef)), (i0, .inr (1, [.ref i1, .int (nI w), .int gr, .int bt, .int jo])), (i1, .inl (cy 1, 10, .inl hf))] sz) := by
  refine Met.ofW (cc := cX5_octet) (maxL := 2) (ret := none) (by decide) rfl ?_
  intro p e s m args below meth c s₁ B hml hv
  obtain ⟨rfl, hsz, hP, hkk, hD0⟩ := hv
  have hx := B.exec
  have hb := B.bytes
  have hr := B.returns
  have hts := atoms_spec (ws := wsX5_octet) B.pre
  have hown : s.vm.findClass RX5 = some m.cls := findClass_of_methodNamed B.named
  have hlocks := B.notSynchronized
  have hin : meth.name = _ := (name_of_methodNamed B.named B.method).1
  have hK := hkk.1
  subst hsz
  have hD := hD0.self (sz := s.heap.size)
  generalize hAe : va_A [(h0, .inr (6, [.ref s0, .ref v0, .ref i0, .long tt, .long tg])), (s0, .inr (5, [.ref p0, .ref d0, .ref r0, .int (nI ct), .int (nI fp), .int fk, .int (nI sk)])), (p0, .inr (3, [.int (nI pB), .int (nI pS), .int (nI pG), .int (nI pE), .int (nI pC), .int (nI pO)])), (d0, .inr (2, [.ref d1, .int (nI n)])), (d1, .inl (cy 0, 70, .inl f)), (r0, .inr (2, [.ref r1, .int (nI rn)])), (r1, .inl (cy 0, 70, .inl rf)), (v0, .inr (4, [.ref p0, .ref e0, .int tm, .int cbf])), (e0, .inr (2, [.ref e1, .int (nI en)])), (e1, .inl (cy 0, 70, .inl ef)), (i0, .inr (1, [.ref i1, .int (nI w), .int gr, .int bt, .int jo])), (i1, .inl (cy 1, 10, .inl hf))] s.heap.size = A at hD ⊢
  have hA : ∀ q : Nat, s.heap.size ≤ q → A q := fun q h => by rw [← hAe]; exact Or.inr h
  have hS : va_S A s.heap s.heap [] := va_S.rf
  have hP : va_P D vwCl [(h0, .inr (6, [.ref s0, .ref v0, .ref i0, .long tt, .long tg])), (s0, .inr (5, [.ref p0, .ref d0, .ref r0, .int (nI ct), .int (nI fp), .int fk, .int (nI sk)])), (p0, .inr (3, [.int (nI pB), .int (nI pS), .int (nI pG), .int (nI pE), .int (nI pC), .int (nI pO)])), (d0, .inr (2, [.ref d1, .int (nI n)])), (d1, .inl (cy 0, 70, .inl f)), (r0, .inr (2, [.ref r1, .int (nI rn)])), (r1, .inl (cy 0, 70, .inl rf)), (v0, .inr (4, [.ref p0, .ref e0, .int tm, .int cbf])), (e0, .inr (2, [.ref e1, .int (nI en)])), (e1, .inl (cy 0, 70, .inl ef)), (i0, .inr (1, [.ref i1, .int (nI w), .int gr, .int bt, .int jo])), (i1, .inl (cy 1, 10, .inl hf))] s.heap := hP
  have hl := lv_entry ([.ref h0, .int x]) (n := 2) (Nat.le_of_ble_eq_true rfl)
  rw [lg_entry_eq]
  generalize (lg_sl ([.ref h0, .int x]) ++ List.replicate (2 - (lg_sl ([.ref h0, .int x])).length) Slot.unset).toArray = ls at hl ⊢
  have hl : lv_has ls 2 [(0, .ref h0), (1, .int x)] := hl
  refine lv_aload_n hx hb dX5_octet_0 rfl (lv_at hl 0 rfl) ?_
  refine va_get (D := D) (ci := 6) (v := .ref s0) (C := RX5) (T := TX5) (N := 5) hx hb hts iw_X5_octet_X5 hown hK hP 0 rfl rfl 0 (by decide) (hts _ lk_X5_octet_f18) (fun _ h9 => h9) rfl dX5_octet_1 ?_
  refine lv_iload_n hx hb dX5_octet_4 rfl (lv_at hl 1 rfl) ?_
  have hPc := hP.sub (ws' := [(s0, .inr (5, [.ref p0, .ref d0, .ref r0, .int (nI ct), .int (nI fp), .int fk, .int (nI sk)])), (p0, .inr (3, [.int (nI pB), .int (nI pS), .int (nI pG), .int (nI pE), .int (nI pC), .int (nI pO)])), (d0, .inr (2, [.ref d1, .int (nI n)])), (d1, .inl (cy 0, 70, .inl f)), (r0, .inr (2, [.ref r1, .int (nI rn)])), (r1, .inl (cy 0, 70, .inl rf))]) [1, 2, 3, 4, 5, 6] rfl
  have hDc := hD.sub (ws' := [(s0, .inr (5, [.ref p0, .ref d0, .ref r0, .int (nI ct), .int (nI fp), .int fk, .int (nI sk)])), (p0, .inr (3, [.int (nI pB), .int (nI pS), .int (nI pG), .int (nI pE), .int (nI pC), .int (nI pO)])), (d0, .inr (2, [.ref d1, .int (nI n)])), (d1, .inl (cy 0, 70, .inl f)), (r0, .inr (2, [.ref r1, .int (nI rn)])), (r1, .inl (cy 0, 70, .inl rf))]) [1, 2, 3, 4, 5, 6] (by decide) rfl
  have hFc := va_free (wc := [(s0, .inr (5, [.ref p0, .ref d0, .ref r0, .int (nI ct), .int (nI fp), .int fk, .int (nI sk)])), (p0, .inr (3, [.int (nI pB), .int (nI pS), .int (nI pG), .int (nI pE), .int (nI pC), .int (nI pO)])), (d0, .inr (2, [.ref d1, .int (nI n)])), (d1, .inl (cy 0, 70, .inl f)), (r0, .inr (2, [.ref r1, .int (nI rn)])), (r1, .inl (cy 0, 70, .inl rf))]) hD hS hA [1, 2, 3, 4, 5, 6] rfl
  refine va_callv (va_runV (As := [.int x]) (rest := []) ⟨hx, hb, hml, hown, hts⟩ (c_X4_collect l D cy s.heap.size s0 p0 d0 d1 r0 r1 (nI ct) (nI fp) fk (nI sk) pB pS pG pE pC pO f n rf rn x (by first | assumption | omega)) (cwV 1 hts gX5_octet_X4_collect rfl rfl rfl (by decide +kernel) ⟨Nat.le_of_ble_eq_true rfl, Nat.le_of_ble_eq_true rfl⟩) (pv_V (ci := 5) (q := (RX4, TX4, 7)) hkk hPc hDc rfl rfl rfl) rfl rfl hl.1 rfl (lv_room (Nat.le_of_ble_eq_true rfl)) dX5_octet_5 ⟨Nat.le_of_ble_eq_true rfl, Nat.le_of_ble_eq_true rfl⟩) hS (fun q _ h => hFc q h) hFc (fun u t H1 locs ht hvm hw hB hz1 hk1 hS => ?_)
  obtain ⟨f2_5, n2_5⟩ := u
  obtain ⟨hP1, hD1⟩ := hB
  rw [ht] at hP1
  try dsimp only at hw hP1 hD1
  obtain ⟨hP, hD⟩ := va_join (wr := [(h0, .inr (6, [.ref s0, .ref v0, .ref i0, .long tt, .long tg])), (v0, .inr (4, [.ref p0, .ref e0, .int tm, .int cbf])), (e0, .inr (2, [.ref e1, .int (nI en)])), (e1, .inl (cy 0, 70, .inl ef)), (i0, .inr (1, [.ref i1, .int (nI w), .int gr, .int bt, .int jo])), (i1, .inl (cy 1, 10, .inl hf))]) (w1 := [(s0, .inr (5, [.ref p0, .ref d0, .ref r0, .int (nI ct), .int (nI fp), .int fk, .int (nI sk)])), (p0, .inr (3, [.int (nI pB), .int (nI pS), .int (nI pG), .int (nI pE), .int (nI pC), .int (nI pO)])), (d0, .inr (2, [.ref d1, .int (nI n2_5)])), (d1, .inl (cy 0, 70, .inl f2_5)), (r0, .inr (2, [.ref r1, .int (nI rn)])), (r1, .inl (cy 0, 70, .inl rf))]) hP hD [1, 2, 3, 4, 5, 6] [0, 7, 8, 9, 10, 11] rfl rfl (by decide) (by decide) hk1 hFc hP1 hD1
  clear hPc hDc hFc hP1 hD1 hz1 hk1
  generalize H1 = H at hP hS ⊢
  have hP : va_P D vwCl [(h0, .inr (6, [.ref s0, .ref v0, .ref i0, .long tt, .long tg])), (v0, .inr (4, [.ref p0, .ref e0, .int tm, .int cbf])), (e0, .inr (2, [.ref e1, .int (nI en)])), (e1, .inl (cy 0, 70, .inl ef)), (i0, .inr (1, [.ref i1, .int (nI w), .int gr, .int bt, .int jo])), (i1, .inl (cy 1, 10, .inl hf)), (s0, .inr (5, [.ref p0, .ref d0, .ref r0, .int (nI ct), .int (nI fp), .int fk, .int (nI sk)])), (p0, .inr (3, [.int (nI pB), .int (nI pS), .int (nI pG), .int (nI pE), .int (nI pC), .int (nI pO)])), (d0, .inr (2, [.ref d1, .int (nI n2_5)])), (d1, .inl (cy 0, 70, .inl f2_5)), (r0, .inr (2, [.ref r1, .int (nI rn)])), (r1, .inl (cy 0, 70, .inl rf))] H := hP
  have hD : va_D A [(h0, .inr (6, [.ref s0, .ref v0, .ref i0, .long tt, .long tg])), (v0, .inr (4, [.ref p0, .ref e0, .int tm, .int cbf])), (e0, .inr (2, [.ref e1, .int (nI en)])), (e1, .inl (cy 0, 70, .inl ef)), (i0, .inr (1, [.ref i1, .int (nI w), .int gr, .int bt, .int jo])), (i1, .inl (cy 1, 10, .inl hf)), (s0, .inr (5, [.ref p0, .ref d0, .ref r0, .int (nI ct), .int (nI fp), .int fk, .int (nI sk)])), (p0, .inr (3, [.int (nI pB), .int (nI pS), .int (nI pG), .int (nI pE), .int (nI pC), .int (nI pO)])), (d0, .inr (2, [.ref d1, .int (nI n2_5)])), (d1, .inl (cy 0, 70, .inl f2_5)), (r0, .inr (2, [.ref r1, .int (nI rn)])), (r1, .inl (cy 0, 70, .inl rf))] := hD
  have hw_5 := hw
  have hP9 := hP.sub (ws' := [(h0, .inr (6, [.ref s0, .ref v0, .ref i0, .long tt, .long tg])), (s0, .inr (5, [.ref p0, .ref d0, .ref r0, .int (nI ct), .int (nI fp), .int fk, .int (nI sk)])), (p0, .inr (3, [.int (nI pB), .int (nI pS), .int (nI pG), .int (nI pE), .int (nI pC), .int (nI pO)])), (d0, .inr (2, [.ref d1, .int (nI n2_5)])), (d1, .inl (cy 0, 70, .inl f2_5)), (r0, .inr (2, [.ref r1, .int (nI rn)])), (r1, .inl (cy 0, 70, .inl rf)), (v0, .inr (4, [.ref p0, .ref e0, .int tm, .int cbf])), (e0, .inr (2, [.ref e1, .int (nI en)])), (e1, .inl (cy 0, 70, .inl ef)), (i0, .inr (1, [.ref i1, .int (nI w), .int gr, .int bt, .int jo])), (i1, .inl (cy 1, 10, .inl hf))]) [0, 6, 7, 8, 9, 10, 11, 1, 2, 3, 4, 5] rfl
  have hD9 := hD.sub (ws' := [(h0, .inr (6, [.ref s0, .ref v0, .ref i0, .long tt, .long tg])), (s0, .inr (5, [.ref p0, .ref d0, .ref r0, .int (nI ct), .int (nI fp), .int fk, .int (nI sk)])), (p0, .inr (3, [.int (nI pB), .int (nI pS), .int (nI pG), .int (nI pE), .int (nI pC), .int (nI pO)])), (d0, .inr (2, [.ref d1, .int (nI n2_5)])), (d1, .inl (cy 0, 70, .inl f2_5)), (r0, .inr (2, [.ref r1, .int (nI rn)])), (r1, .inl (cy 0, 70, .inl rf)), (v0, .inr (4, [.ref p0, .ref e0, .int tm, .int cbf])), (e0, .inr (2, [.ref e1, .int (nI en)])), (e1, .inl (cy 0, 70, .inl ef)), (i0, .inr (1, [.ref i1, .int (nI w), .int gr, .int bt, .int jo])), (i1, .inl (cy 1, 10, .inl hf))]) [0, 6, 7, 8, 9, 10, 11, 1, 2, 3, 4, 5] (by decide) rfl
  exact W.vret hx hb hr (fun t ht hW => ⟨⟨(f2_5, n2_5), rfl, hw_5, by rw [ht]; exact hP9, hD9⟩, hS.F ht⟩) hS.2.2 dX5_octet_8

theorem iw_X5_protect_X5 : ∀ w ∈ wsX50, w ∈ wsX5_protect := by decide +kernel
theorem lk_X5_protect_f18 : (.fieldLink RX5 18 "DataGuards" "sender" "LDataGuards$Sender;" : Cond) ∈ wsX5_protect := by decide +kernel
set_option maxHeartbeats 4000000 in
set_option maxRecDepth 100000 in
theorem c_X5_protect (l : Launch) (D : va_G) (cy : Nat → ClassId) (sz : Nat) (h0 : Nat) (s0 : Nat) (v0 : Nat) (i0 : Nat) (p0 : Nat) (d0 : Nat) (d1 : Nat) (r0 : Nat) (r1 : Nat) (e0 : Nat) (e1 : Nat) (i1 : Nat) (tt : Int64) (tg : Int64) (ct : Nat) (fp : Nat) (fk : Int32) (sk : Nat) (pB : Nat) (pS : Nat) (pG : Nat) (pE : Nat) (pC : Nat) (pO : Nat) (f : Nat → Int32) (n : Nat) (rf : Nat → Int32) (rn : Nat) (tm : Int32) (cbf : Int32) (ef : Nat → Int32) (en : Nat) (hf : Nat → Int32) (w : Nat) (gr : Int32) (bt : Int32) (jo : Int32) (g : Nat → Nat) (i : Int32) (hpv : pvd pB pS pG pE pC pO) (hn : n ≤ 64) (hg : oc_is f n g) (hct : ct < pC) (hfp : fp ≤ 100) (hsk : sk ≤ 100) : Met l yX5_protect wsX5_protect ({ frames := 4, cells := 0, slots := 0, locals := 89 } : Room) (pre1 D cy [.ref h0, .int i] [(h0, .inr (6, [.ref s0, .ref v0, .ref i0, .long tt, .long tg])), (s0, .inr (5, [.ref p0, .ref d0, .ref r0, .int (nI ct), .int (nI fp), .int fk, .int (nI sk)])), (p0, .inr (3, [.int (nI pB), .int (nI pS), .int (nI pG), .int (nI pE), .int (nI pC), .int (nI pO)])), (d0, .inr (2, [.ref d1, .int (nI n)])), (d1, .inl (cy 0, 70, .inl f)), (r0, .inr (2, [.ref r1, .int (nI rn)])), (r1, .inl (cy 0, 70, .inl rf)), (v0, .inr (4, [.ref p0, .ref e0, .int tm, .int cbf])), (e0, .inr (2, [.ref e1, .int (nI en)])), (e1, .inl (cy 0, 70, .inl ef)), (i0, .inr (1, [.ref i1, .int (nI w), .int gr, .int bt, .int jo])), (i1, .inl (cy 1, 10, .inl hf))] sz) (va_Qi (fun (r : Int32) (u : (Nat → Int32) × (Nat) × (Nat) × (Nat) × (Int32) × (Nat)) => (dpro pB pS pG pE pC pO n rn ct fp sk rf fk i g r u.1 u.2.1 u.2.2.1 u.2.2.2.1 u.2.2.2.2.1 u.2.2.2.2.2)) (fun u t => va_P D vwCl [(h0, .inr (6, [.ref s0, .ref v0, .ref i0, .long tt, .long tg])), (s0, .inr (5, [.ref p0, .ref d0, .ref r0, .int (nI u.2.2.2.1), .int (nI fp), .int u.2.2.2.2.1, .int (nI u.2.2.2.2.2)])), (p0, .inr (3, [.int (nI pB), .int (nI pS), .int (nI pG), .int (nI pE), .int (nI pC), .int (nI pO)])), (d0, .inr (2, [.ref d1, .int (nI u.2.1)])), (d1, .inl (cy 0, 70, .inl f)), (r0, .inr (2, [.ref r1, .int (nI u.2.2.1)])), (r1, .inl (cy 0, 70, .inl u.1)), (v0, .inr (4, [.ref p0, .ref e0, .int tm, .int cbf])), (e0, .inr (2, [.ref e1, .int (nI en)])), (e1, .inl (cy 0, 70, .inl ef)), (i0, .inr (1, [.ref i1, .int (nI w), .int gr, .int bt, .int jo])), (i1, .inl (cy 1, 10, .inl hf))] t.heap ∧ va_D (va_A [(h0, .inr (6, [.ref s0, .ref v0, .ref i0, .long tt, .long tg])), (s0, .inr (5, [.ref p0, .ref d0, .ref r0, .int (nI ct), .int (nI fp), .int fk, .int (nI sk)])), (p0, .inr (3, [.int (nI pB), .int (nI pS), .int (nI pG), .int (nI pE), .int (nI pC), .int (nI pO)])), (d0, .inr (2, [.ref d1, .int (nI n)])), (d1, .inl (cy 0, 70, .inl f)), (r0, .inr (2, [.ref r1, .int (nI rn)])), (r1, .inl (cy 0, 70, .inl rf)), (v0, .inr (4, [.ref p0, .ref e0, .int tm, .int cbf])), (e0, .inr (2, [.ref e1, .int (nI en)])), (e1, .inl (cy 0, 70, .inl ef)), (i0, .inr (1, [.ref i1, .int (nI w), .int gr, .int bt, .int jo])), (i1, .inl (cy 1, 10, .inl hf))] sz) [(h0, .inr (6, [.ref s0, .ref v0, .ref i0, .long tt, .long tg])), (s0, .inr (5, [.ref p0, .ref d0, .ref r0, .int (nI u.2.2.2.1), .int (nI fp), .int u.2.2.2.2.1, .int (nI u.2.2.2.2.2)])), (p0, .inr (3, [.int (nI pB), .int (nI pS), .int (nI pG), .int (nI pE), .int (nI pC), .int (nI pO)])), (d0, .inr (2, [.ref d1, .int (nI u.2.1)])), (d1, .inl (cy 0, 70, .inl f)), (r0, .inr (2, [.ref r1, .int (nI u.2.2.1)])), (r1, .inl (cy 0, 70, .inl u.1)), (v0, .inr (4, [.ref p0, .ref e0, .int tm, .int cbf])), (e0, .inr (2, [.ref e1, .int (nI en)])), (e1, .inl (cy 0, 70, .inl ef)), (i0, .inr (1, [.ref i1, .int (nI w), .int gr, .int bt, .int jo])), (i1, .inl (cy 1, 10, .inl hf))]) (va_A [(h0, .inr (6, [.ref s0, .ref v0, .ref i0, .long tt, .long tg])), (s0, .inr (5, [.ref p0, .ref d0, .ref r0, .int (nI ct), .int (nI fp), .int fk, .int (nI sk)])), (p0, .inr (3, [.int (nI pB), .int (nI pS), .int (nI pG), .int (nI pE), .int (nI pC), .int (nI pO)])), (d0, .inr (2, [.ref d1, .int (nI n)])), (d1, .inl (cy 0, 70, .inl f)), (r0, .inr (2, [.ref r1, .int (nI rn)])), (r1, .inl (cy 0, 70, .inl rf)), (v0, .inr (4, [.ref p0, .ref e0, .int tm, .int cbf])), (e0, .inr (2, [.ref e1, .int (nI en)])), (e1, .inl (cy 0, 70, .inl ef)), (i0, .inr (1, [.ref i1, .int (nI w), .int gr, .int bt, .int jo])), (i1, .inl (cy 1, 10, .inl hf))] sz)) 0 0 (va_A [(h0, .inr (6, [.ref s0, .ref v0, .ref i0, .long tt, .long tg])), (s0, .inr (5, [.ref p0, .ref d0, .ref r0, .int (nI ct), .int (nI fp), .int fk, .int (nI sk)])), (p0, .inr (3, [.int (nI pB), .int (nI pS), .int (nI pG), .int (nI pE), .int (nI pC), .int (nI pO)])), (d0, .inr (2, [.ref d1, .int (nI n)])), (d1, .inl (cy 0, 70, .inl f)), (r0, .inr (2, [.ref r1, .int (nI rn)])), (r1, .inl (cy 0, 70, .inl rf)), (v0, .inr (4, [.ref p0, .ref e0, .int tm, .int cbf])), (e0, .inr (2, [.ref e1, .int (nI en)])), (e1, .inl (cy 0, 70, .inl ef)), (i0, .inr (1, [.ref i1, .int (nI w), .int gr, .int bt, .int jo])), (i1, .inl (cy 1, 10, .inl hf))] sz) := by
  refine Met.ofW (cc := cX5_protect) (maxL := 2) (ret := (some .int)) (by decide) rfl ?_
  intro p e s m args below meth c s₁ B hml hv
  obtain ⟨rfl, hsz, hP, hkk, hD0⟩ := hv
  have hx := B.exec
  have hb := B.bytes
  have hr := B.returns
  have hts := atoms_spec (ws := wsX5_protect) B.pre
  have hown : s.vm.findClass RX5 = some m.cls := findClass_of_methodNamed B.named
  have hlocks := B.notSynchronized
  have hin : meth.name = _ := (name_of_methodNamed B.named B.method).1
  have hK := hkk.1
  subst hsz
  have hD := hD0.self (sz := s.heap.size)
  generalize hAe : va_A [(h0, .inr (6, [.ref s0, .ref v0, .ref i0, .long tt, .long tg])), (s0, .inr (5, [.ref p0, .ref d0, .ref r0, .int (nI ct), .int (nI fp), .int fk, .int (nI sk)])), (p0, .inr (3, [.int (nI pB), .int (nI pS), .int (nI pG), .int (nI pE), .int (nI pC), .int (nI pO)])), (d0, .inr (2, [.ref d1, .int (nI n)])), (d1, .inl (cy 0, 70, .inl f)), (r0, .inr (2, [.ref r1, .int (nI rn)])), (r1, .inl (cy 0, 70, .inl rf)), (v0, .inr (4, [.ref p0, .ref e0, .int tm, .int cbf])), (e0, .inr (2, [.ref e1, .int (nI en)])), (e1, .inl (cy 0, 70, .inl ef)), (i0, .inr (1, [.ref i1, .int (nI w), .int gr, .int bt, .int jo])), (i1, .inl (cy 1, 10, .inl hf))] s.heap.size = A at hD ⊢
  have hA : ∀ q : Nat, s.heap.size ≤ q → A q := fun q h => by rw [← hAe]; exact Or.inr h
  have hS : va_S A s.heap s.heap [] := va_S.rf
  have hP : va_P D vwCl [(h0, .inr (6, [.ref s0, .ref v0, .ref i0, .long tt, .long tg])), (s0, .inr (5, [.ref p0, .ref d0, .ref r0, .int (nI ct), .int (nI fp), .int fk, .int (nI sk)])), (p0, .inr (3, [.int (nI pB), .int (nI pS), .int (nI pG), .int (nI pE), .int (nI pC), .int (nI pO)])), (d0, .inr (2, [.ref d1, .int (nI n)])), (d1, .inl (cy 0, 70, .inl f)), (r0, .inr (2, [.ref r1, .int (nI rn)])), (r1, .inl (cy 0, 70, .inl rf)), (v0, .inr (4, [.ref p0, .ref e0, .int tm, .int cbf])), (e0, .inr (2, [.ref e1, .int (nI en)])), (e1, .inl (cy 0, 70, .inl ef)), (i0, .inr (1, [.ref i1, .int (nI w), .int gr, .int bt, .int jo])), (i1, .inl (cy 1, 10, .inl hf))] s.heap := hP
  have hl := lv_entry ([.ref h0, .int i]) (n := 2) (Nat.le_of_ble_eq_true rfl)
  rw [lg_entry_eq]
  generalize (lg_sl ([.ref h0, .int i]) ++ List.replicate (2 - (lg_sl ([.ref h0, .int i])).length) Slot.unset).toArray = ls at hl ⊢
  have hl : lv_has ls 2 [(0, .ref h0), (1, .int i)] := hl
  refine lv_iload_n hx hb dX5_protect_0 rfl (lv_at hl 1 rfl) ?_
  have hPc := hP.sub (ws' := []) [] rfl
  have hDc := hD.sub (ws' := []) [] (by decide) rfl
  have hFc := va_free (wc := []) hD hS hA [] rfl
  refine va_calli (va_runS (As := [.int i]) (rest := []) ⟨hx, hb, hml, hown, hts⟩ (c_X5_isIdentity l D cy s.heap.size i ) (va_cwS 1 hts gX5_protect_X5_isIdentity rfl rfl rfl (by decide +kernel) ⟨Nat.le_of_ble_eq_true rfl, Nat.le_of_ble_eq_true rfl⟩) (pv_S hkk hPc hDc rfl) rfl rfl hl.1 rfl (lv_room (Nat.le_of_ble_eq_true rfl)) dX5_protect_1 ⟨Nat.le_of_ble_eq_true rfl, Nat.le_of_ble_eq_true rfl⟩) hS (fun q _ h => hFc q h) hFc (fun r_1 u t H1 locs ht hvm hw hB hz1 hk1 hS => ?_)
  obtain ⟨hP1, hD1⟩ := hB
  rw [ht] at hP1
  try dsimp only at hw hP1 hD1
  obtain ⟨hP, hD⟩ := va_join (wr := [(h0, .inr (6, [.ref s0, .ref v0, .ref i0, .long tt, .long tg])), (s0, .inr (5, [.ref p0, .ref d0, .ref r0, .int (nI ct), .int (nI fp), .int fk, .int (nI sk)])), (p0, .inr (3, [.int (nI pB), .int (nI pS), .int (nI pG), .int (nI pE), .int (nI pC), .int (nI pO)])), (d0, .inr (2, [.ref d1, .int (nI n)])), (d1, .inl (cy 0, 70, .inl f)), (r0, .inr (2, [.ref r1, .int (nI rn)])), (r1, .inl (cy 0, 70, .inl rf)), (v0, .inr (4, [.ref p0, .ref e0, .int tm, .int cbf])), (e0, .inr (2, [.ref e1, .int (nI en)])), (e1, .inl (cy 0, 70, .inl ef)), (i0, .inr (1, [.ref i1, .int (nI w), .int gr, .int bt, .int jo])), (i1, .inl (cy 1, 10, .inl hf))]) (w1 := []) hP hD [] [0, 1, 2, 3, 4, 5, 6, 7, 8, 9, 10, 11] rfl rfl (by decide) (by decide) hk1 hFc hP1 hD1
  clear hPc hDc hFc hP1 hD1 hz1 hk1
  generalize H1 = H at hP hS ⊢
  have hP : va_P D vwCl [(h0, .inr (6, [.ref s0, .ref v0, .ref i0, .long tt, .long tg])), (s0, .inr (5, [.ref p0, .ref d0, .ref r0, .int (nI ct), .int (nI fp), .int fk, .int (nI sk)])), (p0, .inr (3, [.int (nI pB), .int (nI pS), .int (nI pG), .int (nI pE), .int (nI pC), .int (nI pO)])), (d0, .inr (2, [.ref d1, .int (nI n)])), (d1, .inl (cy 0, 70, .inl f)), (r0, .inr (2, [.ref r1, .int (nI rn)])), (r1, .inl (cy 0, 70, .inl rf)), (v0, .inr (4, [.ref p0, .ref e0, .int tm, .int cbf])), (e0, .inr (2, [.ref e1, .int (nI en)])), (e1, .inl (cy 0, 70, .inl ef)), (i0, .inr (1, [.ref i1, .int (nI w), .int gr, .int bt, .int jo])), (i1, .inl (cy 1, 10, .inl hf))] H := hP
  have hD : va_D A [(h0, .inr (6, [.ref s0, .ref v0, .ref i0, .long tt, .long tg])), (s0, .inr (5, [.ref p0, .ref d0, .ref r0, .int (nI ct), .int (nI fp), .int fk, .int (nI sk)])), (p0, .inr (3, [.int (nI pB), .int (nI pS), .int (nI pG), .int (nI pE), .int (nI pC), .int (nI pO)])), (d0, .inr (2, [.ref d1, .int (nI n)])), (d1, .inl (cy 0, 70, .inl f)), (r0, .inr (2, [.ref r1, .int (nI rn)])), (r1, .inl (cy 0, 70, .inl rf)), (v0, .inr (4, [.ref p0, .ref e0, .int tm, .int cbf])), (e0, .inr (2, [.ref e1, .int (nI en)])), (e1, .inl (cy 0, 70, .inl ef)), (i0, .inr (1, [.ref i1, .int (nI w), .int gr, .int bt, .int jo])), (i1, .inl (cy 1, 10, .inl hf))] := hD
  obtain rfl := hw
  refine lv_if_eq (tgt := 18) hx hb dX5_protect_4 (by decide) (fun c_4 => ?_) (fun c_4 => ?_)
  · refine lv_bipush (v := (-2)) hx hb dX5_protect_18 (by decide) ?_
    have hP9 := hP.sub (ws' := [(h0, .inr (6, [.ref s0, .ref v0, .ref i0, .long tt, .long tg])), (s0, .inr (5, [.ref p0, .ref d0, .ref r0, .int (nI ct), .int (nI fp), .int fk, .int (nI sk)])), (p0, .inr (3, [.int (nI pB), .int (nI pS), .int (nI pG), .int (nI pE), .int (nI pC), .int (nI pO)])), (d0, .inr (2, [.ref d1, .int (nI n)])), (d1, .inl (cy 0, 70, .inl f)), (r0, .inr (2, [.ref r1, .int (nI rn)])), (r1, .inl (cy 0, 70, .inl rf)), (v0, .inr (4, [.ref p0, .ref e0, .int tm, .int cbf])), (e0, .inr (2, [.ref e1, .int (nI en)])), (e1, .inl (cy 0, 70, .inl ef)), (i0, .inr (1, [.ref i1, .int (nI w), .int gr, .int bt, .int jo])), (i1, .inl (cy 1, 10, .inl hf))]) [0, 1, 2, 3, 4, 5, 6, 7, 8, 9, 10, 11] rfl
    have hD9 := hD.sub (ws' := [(h0, .inr (6, [.ref s0, .ref v0, .ref i0, .long tt, .long tg])), (s0, .inr (5, [.ref p0, .ref d0, .ref r0, .int (nI ct), .int (nI fp), .int fk, .int (nI sk)])), (p0, .inr (3, [.int (nI pB), .int (nI pS), .int (nI pG), .int (nI pE), .int (nI pC), .int (nI pO)])), (d0, .inr (2, [.ref d1, .int (nI n)])), (d1, .inl (cy 0, 70, .inl f)), (r0, .inr (2, [.ref r1, .int (nI rn)])), (r1, .inl (cy 0, 70, .inl rf)), (v0, .inr (4, [.ref p0, .ref e0, .int tm, .int cbf])), (e0, .inr (2, [.ref e1, .int (nI en)])), (e1, .inl (cy 0, 70, .inl ef)), (i0, .inr (1, [.ref i1, .int (nI w), .int gr, .int bt, .int jo])), (i1, .inl (cy 1, 10, .inl hf))]) [0, 1, 2, 3, 4, 5, 6, 7, 8, 9, 10, 11] (by decide) rfl
    exact W.iret (v := (-2)) hx hb hr (fun t ht hW => ⟨⟨(-2), (rf, n, rn, ct, fk, sk), rfl, Or.inl ⟨c_4, rfl, rfl, rfl, rfl, rfl, rfl, rfl⟩, by rw [ht]; exact hP9, hD9⟩, hS.F ht⟩) hS.2.2 dX5_protect_20
  · obtain ⟨d, hd, rfl⟩ := idy_yes c_4
    refine lv_aload_n hx hb dX5_protect_7 rfl (lv_at hl 0 rfl) ?_
    refine va_get (D := D) (ci := 6) (v := .ref s0) (C := RX5) (T := TX5) (N := 5) hx hb hts iw_X5_protect_X5 hown hK hP 0 rfl rfl 0 (by decide) (hts _ lk_X5_protect_f18) (fun _ h9 => h9) rfl dX5_protect_8 ?_
    refine lv_iload_n hx hb dX5_protect_11 rfl (lv_at hl 1 rfl) ?_
    have hPc := hP.sub (ws' := [(s0, .inr (5, [.ref p0, .ref d0, .ref r0, .int (nI ct), .int (nI fp), .int fk, .int (nI sk)])), (p0, .inr (3, [.int (nI pB), .int (nI pS), .int (nI pG), .int (nI pE), .int (nI pC), .int (nI pO)])), (d0, .inr (2, [.ref d1, .int (nI n)])), (d1, .inl (cy 0, 70, .inl f)), (r0, .inr (2, [.ref r1, .int (nI rn)])), (r1, .inl (cy 0, 70, .inl rf))]) [1, 2, 3, 4, 5, 6] rfl
    have hDc := hD.sub (ws' := [(s0, .inr (5, [.ref p0, .ref d0, .ref r0, .int (nI ct), .int (nI fp), .int fk, .int (nI sk)])), (p0, .inr (3, [.int (nI pB), .int (nI pS), .int (nI pG), .int (nI pE), .int (nI pC), .int (nI pO)])), (d0, .inr (2, [.ref d1, .int (nI n)])), (d1, .inl (cy 0, 70, .inl f)), (r0, .inr (2, [.ref r1, .int (nI rn)])), (r1, .inl (cy 0, 70, .inl rf))]) [1, 2, 3, 4, 5, 6] (by decide) rfl
    have hFc := va_free (wc := [(s0, .inr (5, [.ref p0, .ref d0, .ref r0, .int (nI ct), .int (nI fp), .int fk, .int (nI sk)])), (p0, .inr (3, [.int (nI pB), .int (nI pS), .int (nI pG), .int (nI pE), .int (nI pC), .int (nI pO)])), (d0, .inr (2, [.ref d1, .int (nI n)])), (d1, .inl (cy 0, 70, .inl f)), (r0, .inr (2, [.ref r1, .int (nI rn)])), (r1, .inl (cy 0, 70, .inl rf))]) hD hS hA [1, 2, 3, 4, 5, 6] rfl
    refine va_calli (va_runV (As := [.int (nI d)]) (rest := []) ⟨hx, hb, hml, hown, hts⟩ (c_X4_makeRow l D cy H.size s0 p0 d0 d1 r0 r1 ct fp fk sk pB pS pG pE pC pO f n rf rn g d (by first | assumption | omega) (by first | assumption | omega) (by first | assumption | omega) (by first | assumption | omega) (by first | assumption | omega) (by first | assumption | omega) (by first | assumption | omega)) (cwV 1 hts gX5_protect_X4_makeRow rfl rfl rfl (by decide +kernel) ⟨Nat.le_of_ble_eq_true rfl, Nat.le_of_ble_eq_true rfl⟩) (pv_V (ci := 5) (q := (RX4, TX4, 7)) hkk hPc hDc rfl rfl rfl) rfl rfl hl.1 rfl (lv_room (Nat.le_of_ble_eq_true rfl)) dX5_protect_12 ⟨Nat.le_of_ble_eq_true rfl, Nat.le_of_ble_eq_true rfl⟩) hS (fun q _ h => hFc q h) hFc (fun r_12 u t H1 locs ht hvm hw hB hz1 hk1 hS => ?_)
    obtain ⟨f2_12, rfl⟩ : ∃ z, z = u := ⟨_, rfl⟩
    obtain ⟨hP1, hD1⟩ := hB
    rw [ht] at hP1
    try dsimp only at hw hP1 hD1
    obtain ⟨hP, hD⟩ := va_join (wr := [(h0, .inr (6, [.ref s0, .ref v0, .ref i0, .long tt, .long tg])), (v0, .inr (4, [.ref p0, .ref e0, .int tm, .int cbf])), (e0, .inr (2, [.ref e1, .int (nI en)])), (e1, .inl (cy 0, 70, .inl ef)), (i0, .inr (1, [.ref i1, .int (nI w), .int gr, .int bt, .int jo])), (i1, .inl (cy 1, 10, .inl hf))]) (w1 := [(s0, .inr (5, [.ref p0, .ref d0, .ref r0, .int (nI (((ct + sk) % pC + 1) % pC)), .int (nI fp), .int 0, .int (nI 0)])), (p0, .inr (3, [.int (nI pB), .int (nI pS), .int (nI pG), .int (nI pE), .int (nI pC), .int (nI pO)])), (d0, .inr (2, [.ref d1, .int (nI 0)])), (d1, .inl (cy 0, 70, .inl f)), (r0, .inr (2, [.ref r1, .int (nI (pO + n + pB / 8))])), (r1, .inl (cy 0, 70, .inl f2_12))]) hP hD [1, 2, 3, 4, 5, 6] [0, 7, 8, 9, 10, 11] rfl rfl (by decide) (by decide) hk1 hFc hP1 hD1
    clear hPc hDc hFc hP1 hD1 hz1 hk1
    generalize H1 = H at hP hS ⊢
    have hP : va_P D vwCl [(h0, .inr (6, [.ref s0, .ref v0, .ref i0, .long tt, .long tg])), (v0, .inr (4, [.ref p0, .ref e0, .int tm, .int cbf])), (e0, .inr (2, [.ref e1, .int (nI en)])), (e1, .inl (cy 0, 70, .inl ef)), (i0, .inr (1, [.ref i1, .int (nI w), .int gr, .int bt, .int jo])), (i1, .inl (cy 1, 10, .inl hf)), (s0, .inr (5, [.ref p0, .ref d0, .ref r0, .int (nI (((ct + sk) % pC + 1) % pC)), .int (nI fp), .int 0, .int (nI 0)])), (p0, .inr (3, [.int (nI pB), .int (nI pS), .int (nI pG), .int (nI pE), .int (nI pC), .int (nI pO)])), (d0, .inr (2, [.ref d1, .int (nI 0)])), (d1, .inl (cy 0, 70, .inl f)), (r0, .inr (2, [.ref r1, .int (nI (pO + n + pB / 8))])), (r1, .inl (cy 0, 70, .inl f2_12))] H := hP
    have hD : va_D A [(h0, .inr (6, [.ref s0, .ref v0, .ref i0, .long tt, .long tg])), (v0, .inr (4, [.ref p0, .ref e0, .int tm, .int cbf])), (e0, .inr (2, [.ref e1, .int (nI en)])), (e1, .inl (cy 0, 70, .inl ef)), (i0, .inr (1, [.ref i1, .int (nI w), .int gr, .int bt, .int jo])), (i1, .inl (cy 1, 10, .inl hf)), (s0, .inr (5, [.ref p0, .ref d0, .ref r0, .int (nI (((ct + sk) % pC + 1) % pC)), .int (nI fp), .int 0, .int (nI 0)])), (p0, .inr (3, [.int (nI pB), .int (nI pS), .int (nI pG), .int (nI pE), .int (nI pC), .int (nI pO)])), (d0, .inr (2, [.ref d1, .int (nI 0)])), (d1, .inl (cy 0, 70, .inl f)), (r0, .inr (2, [.ref r1, .int (nI (pO + n + pB / 8))])), (r1, .inl (cy 0, 70, .inl f2_12))] := hD
    obtain ⟨rfl, hw_12⟩ := hw
    refine lv_goto (tgt := 20) hx hb dX5_protect_15 (by decide) ?_
    have hP9 := hP.sub (ws' := [(h0, .inr (6, [.ref s0, .ref v0, .ref i0, .long tt, .long tg])), (s0, .inr (5, [.ref p0, .ref d0, .ref r0, .int (nI (((ct + sk) % pC + 1) % pC)), .int (nI fp), .int 0, .int (nI 0)])), (p0, .inr (3, [.int (nI pB), .int (nI pS), .int (nI pG), .int (nI pE), .int (nI pC), .int (nI pO)])), (d0, .inr (2, [.ref d1, .int (nI 0)])), (d1, .inl (cy 0, 70, .inl f)), (r0, .inr (2, [.ref r1, .int (nI (pO + n + pB / 8))])), (r1, .inl (cy 0, 70, .inl f2_12)), (v0, .inr (4, [.ref p0, .ref e0, .int tm, .int cbf])), (e0, .inr (2, [.ref e1, .int (nI en)])), (e1, .inl (cy 0, 70, .inl ef)), (i0, .inr (1, [.ref i1, .int (nI w), .int gr, .int bt, .int jo])), (i1, .inl (cy 1, 10, .inl hf))]) [0, 6, 7, 8, 9, 10, 11, 1, 2, 3, 4, 5] rfl
    have hD9 := hD.sub (ws' := [(h0, .inr (6, [.ref s0, .ref v0, .ref i0, .long tt, .long tg])), (s0, .inr (5, [.ref p0, .ref d0, .ref r0, .int (nI (((ct + sk) % pC + 1) % pC)), .int (nI fp), .int 0, .int (nI 0)])), (p0, .inr (3, [.int (nI pB), .int (nI pS), .int (nI pG), .int (nI pE), .int (nI pC), .int (nI pO)])), (d0, .inr (2, [.ref d1, .int (nI 0)])), (d1, .inl (cy 0, 70, .inl f)), (r0, .inr (2, [.ref r1, .int (nI (pO + n + pB / 8))])), (r1, .inl (cy 0, 70, .inl f2_12)), (v0, .inr (4, [.ref p0, .ref e0, .int tm, .int cbf])), (e0, .inr (2, [.ref e1, .int (nI en)])), (e1, .inl (cy 0, 70, .inl ef)), (i0, .inr (1, [.ref i1, .int (nI w), .int gr, .int bt, .int jo])), (i1, .inl (cy 1, 10, .inl hf))]) [0, 6, 7, 8, 9, 10, 11, 1, 2, 3, 4, 5] (by decide) rfl
    exact W.iret (v := nI (pO + n + pB / 8)) hx hb hr (fun t ht hW => ⟨⟨nI (pO + n + pB / 8), (f2_12, 0, pO + n + pB / 8, ((ct + sk) % pC + 1) % pC, 0, 0), rfl, Or.inr ⟨d, hd, rfl, rfl, hw_12, rfl, rfl, rfl, rfl, rfl⟩, by rw [ht]; exact hP9, hD9⟩, hS.F ht⟩) hS.2.2 dX5_protect_20

theorem iw_X5_counter_X5 : ∀ w ∈ wsX50, w ∈ wsX5_counter := by decide +kernel
theorem lk_X5_counter_f18 : (.fieldLink RX5 18 "DataGuards" "sender" "LDataGuards$Sender;" : Cond) ∈ wsX5_counter := by decide +kernel
theorem iw_X5_counter_X4 : ∀ w ∈ wsX40, w ∈ wsX5_counter := by decide +kernel
set_option maxHeartbeats 4000000 in
set_option maxRecDepth 100000 in
theorem c_X5_counter (l : Launch) (D : va_G) (cy : Nat → ClassId) (sz : Nat) (h0 : Nat) (s0 : Nat) (v0 : Nat) (i0 : Nat) (p0 : Nat) (d0 : Nat) (d1 : Nat) (r0 : Nat) (r1 : Nat) (e0 : Nat) (e1 : Nat) (i1 : Nat) (tt : Int64) (tg : Int64) (ct : Nat) (fp : Nat) (fk : Int32) (sk : Nat) (pB : Nat) (pS : Nat) (pG : Nat) (pE : Nat) (pC : Nat) (pO : Nat) (f : Nat → Int32) (n : Nat) (rf : Nat → Int32) (rn : Nat) (tm : Int32) (cbf : Int32) (ef : Nat → Int32) (en : Nat) (hf : Nat → Int32) (w : Nat) (gr : Int32) (bt : Int32) (jo : Int32)  : Met l yX5_counter wsX5_counter ({ frames := 0, cells := 0, slots := 0, locals := 0 } : Room) (pre1 D cy [.ref h0] [(h0, .inr (6, [.ref s0, .ref v0, .ref i0, .long tt, .long tg])), (s0, .inr (5, [.ref p0, .ref d0, .ref r0, .int (nI ct), .int (nI fp), .int fk, .int (nI sk)])), (p0, .inr (3, [.int (nI pB), .int (nI pS), .int (nI pG), .int (nI pE), .int (nI pC), .int (nI pO)])), (d0, .inr (2, [.ref d1, .int (nI n)])), (d1, .inl (cy 0, 70, .inl f)), (r0, .inr (2, [.ref r1, .int (nI rn)])), (r1, .inl (cy 0, 70, .inl rf)), (v0, .inr (4, [.ref p0, .ref e0, .int tm, .int cbf])), (e0, .inr (2, [.ref e1, .int (nI en)])), (e1, .inl (cy 0, 70, .inl ef)), (i0, .inr (1, [.ref i1, .int (nI w), .int gr, .int bt, .int jo])), (i1, .inl (cy 1, 10, .inl hf))] sz) (va_Qi (fun (r : Int32) (u : Unit) => r = nI ct) (fun u t => va_P D vwCl [(h0, .inr (6, [.ref s0, .ref v0, .ref i0, .long tt, .long tg])), (s0, .inr (5, [.ref p0, .ref d0, .ref r0, .int (nI ct), .int (nI fp), .int fk, .int (nI sk)])), (p0, .inr (3, [.int (nI pB), .int (nI pS), .int (nI pG), .int (nI pE), .int (nI pC), .int (nI pO)])), (d0, .inr (2, [.ref d1, .int (nI n)])), (d1, .inl (cy 0, 70, .inl f)), (r0, .inr (2, [.ref r1, .int (nI rn)])), (r1, .inl (cy 0, 70, .inl rf)), (v0, .inr (4, [.ref p0, .ref e0, .int tm, .int cbf])), (e0, .inr (2, [.ref e1, .int (nI en)])), (e1, .inl (cy 0, 70, .inl ef)), (i0, .inr (1, [.ref i1, .int (nI w), .int gr, .int bt, .int jo])), (i1, .inl (cy 1, 10, .inl hf))] t.heap ∧ va_D (va_A [(h0, .inr (6, [.ref s0, .ref v0, .ref i0, .long tt, .long tg])), (s0, .inr (5, [.ref p0, .ref d0, .ref r0, .int (nI ct), .int (nI fp), .int fk, .int (nI sk)])), (p0, .inr (3, [.int (nI pB), .int (nI pS), .int (nI pG), .int (nI pE), .int (nI pC), .int (nI pO)])), (d0, .inr (2, [.ref d1, .int (nI n)])), (d1, .inl (cy 0, 70, .inl f)), (r0, .inr (2, [.ref r1, .int (nI rn)])), (r1, .inl (cy 0, 70, .inl rf)), (v0, .inr (4, [.ref p0, .ref e0, .int tm, .int cbf])), (e0, .inr (2, [.ref e1, .int (nI en)])), (e1, .inl (cy 0, 70, .inl ef)), (i0, .inr (1, [.ref i1, .int (nI w), .int gr, .int bt, .int jo])), (i1, .inl (cy 1, 10, .inl hf))] sz) [(h0, .inr (6, [.ref s0, .ref v0, .ref i0, .long tt, .long tg])), (s0, .inr (5, [.ref p0, .ref d0, .ref r0, .int (nI ct), .int (nI fp), .int fk, .int (nI sk)])), (p0, .inr (3, [.int (nI pB), .int (nI pS), .int (nI pG), .int (nI pE), .int (nI pC), .int (nI pO)])), (d0, .inr (2, [.ref d1, .int (nI n)])), (d1, .inl (cy 0, 70, .inl f)), (r0, .inr (2, [.ref r1, .int (nI rn)])), (r1, .inl (cy 0, 70, .inl rf)), (v0, .inr (4, [.ref p0, .ref e0, .int tm, .int cbf])), (e0, .inr (2, [.ref e1, .int (nI en)])), (e1, .inl (cy 0, 70, .inl ef)), (i0, .inr (1, [.ref i1, .int (nI w), .int gr, .int bt, .int jo])), (i1, .inl (cy 1, 10, .inl hf))]) (va_A [(h0, .inr (6, [.ref s0, .ref v0, .ref i0, .long tt, .long tg])), (s0, .inr (5, [.ref p0, .ref d0, .ref r0, .int (nI ct), .int (nI fp), .int fk, .int (nI sk)])), (p0, .inr (3, [.int (nI pB), .int (nI pS), .int (nI pG), .int (nI pE), .int (nI pC), .int (nI pO)])), (d0, .inr (2, [.ref d1, .int (nI n)])), (d1, .inl (cy 0, 70, .inl f)), (r0, .inr (2, [.ref r1, .int (nI rn)])), (r1, .inl (cy 0, 70, .inl rf)), (v0, .inr (4, [.ref p0, .ref e0, .int tm, .int cbf])), (e0, .inr (2, [.ref e1, .int (nI en)])), (e1, .inl (cy 0, 70, .inl ef)), (i0, .inr (1, [.ref i1, .int (nI w), .int gr, .int bt, .int jo])), (i1, .inl (cy 1, 10, .inl hf))] sz)) 0 0 (va_A [(h0, .inr (6, [.ref s0, .ref v0, .ref i0, .long tt, .long tg])), (s0, .inr (5, [.ref p0, .ref d0, .ref r0, .int (nI ct), .int (nI fp), .int fk, .int (nI sk)])), (p0, .inr (3, [.int (nI pB), .int (nI pS), .int (nI pG), .int (nI pE), .int (nI pC), .int (nI pO)])), (d0, .inr (2, [.ref d1, .int (nI n)])), (d1, .inl (cy 0, 70, .inl f)), (r0, .inr (2, [.ref r1, .int (nI rn)])), (r1, .inl (cy 0, 70, .inl rf)), (v0, .inr (4, [.ref p0, .ref e0, .int tm, .int cbf])), (e0, .inr (2, [.ref e1, .int (nI en)])), (e1, .inl (cy 0, 70, .inl ef)), (i0, .inr (1, [.ref i1, .int (nI w), .int gr, .int bt, .int jo])), (i1, .inl (cy 1, 10, .inl hf))] sz) := by
  refine Met.ofW (cc := cX5_counter) (maxL := 1) (ret := (some .int)) (by decide) rfl ?_
  intro p e s m args below meth c s₁ B hml hv
  obtain ⟨rfl, hsz, hP, hkk, hD0⟩ := hv
  have hx := B.exec
  have hb := B.bytes
  have hr := B.returns
  have hts := atoms_spec (ws := wsX5_counter) B.pre
  have hown : s.vm.findClass RX5 = some m.cls := findClass_of_methodNamed B.named
  have hlocks := B.notSynchronized
  have hin : meth.name = _ := (name_of_methodNamed B.named B.method).1
  have hK := hkk.1
  subst hsz
  have hD := hD0.self (sz := s.heap.size)
  generalize hAe : va_A [(h0, .inr (6, [.ref s0, .ref v0, .ref i0, .long tt, .long tg])), (s0, .inr (5, [.ref p0, .ref d0, .ref r0, .int (nI ct), .int (nI fp), .int fk, .int (nI sk)])), (p0, .inr (3, [.int (nI pB), .int (nI pS), .int (nI pG), .int (nI pE), .int (nI pC), .int (nI pO)])), (d0, .inr (2, [.ref d1, .int (nI n)])), (d1, .inl (cy 0, 70, .inl f)), (r0, .inr (2, [.ref r1, .int (nI rn)])), (r1, .inl (cy 0, 70, .inl rf)), (v0, .inr (4, [.ref p0, .ref e0, .int tm, .int cbf])), (e0, .inr (2, [.ref e1, .int (nI en)])), (e1, .inl (cy 0, 70, .inl ef)), (i0, .inr (1, [.ref i1, .int (nI w), .int gr, .int bt, .int jo])), (i1, .inl (cy 1, 10, .inl hf))] s.heap.size = A at hD ⊢
  have hA : ∀ q : Nat, s.heap.size ≤ q → A q := fun q h => by rw [← hAe]; exact Or.inr h
  have hS : va_S A s.heap s.heap [] := va_S.rf
  have hP : va_P D vwCl [(h0, .inr (6, [.ref s0, .ref v0, .ref i0, .long tt, .long tg])), (s0, .inr (5, [.ref p0, .ref d0, .ref r0, .int (nI ct), .int (nI fp), .int fk, .int (nI sk)])), (p0, .inr (3, [.int (nI pB), .int (nI pS), .int (nI pG), .int (nI pE), .int (nI pC), .int (nI pO)])), (d0, .inr (2, [.ref d1, .int (nI n)])), (d1, .inl (cy 0, 70, .inl f)), (r0, .inr (2, [.ref r1, .int (nI rn)])), (r1, .inl (cy 0, 70, .inl rf)), (v0, .inr (4, [.ref p0, .ref e0, .int tm, .int cbf])), (e0, .inr (2, [.ref e1, .int (nI en)])), (e1, .inl (cy 0, 70, .inl ef)), (i0, .inr (1, [.ref i1, .int (nI w), .int gr, .int bt, .int jo])), (i1, .inl (cy 1, 10, .inl hf))] s.heap := hP
  have hl := lv_entry ([.ref h0]) (n := 1) (Nat.le_of_ble_eq_true rfl)
  rw [lg_entry_eq]
  generalize (lg_sl ([.ref h0]) ++ List.replicate (1 - (lg_sl ([.ref h0])).length) Slot.unset).toArray = ls at hl ⊢
  have hl : lv_has ls 1 [(0, .ref h0)] := hl
  refine lv_aload_n hx hb dX5_counter_0 rfl (lv_at hl 0 rfl) ?_
  refine va_get (D := D) (ci := 6) (v := .ref s0) (C := RX5) (T := TX5) (N := 5) hx hb hts iw_X5_counter_X5 hown hK hP 0 rfl rfl 0 (by decide) (hts _ lk_X5_counter_f18) (fun _ h9 => h9) rfl dX5_counter_1 ?_
  refine va_getN (D := D) (ci := 5) (v := .int (nI ct)) (C := RX4) (T := TX4) (N := 7) hx hb hts iw_X5_counter_X4 hown hK hP 1 rfl rfl 3 (by decide) (nw_use 6 rfl rfl hkk.2) (fun _ h9 => h9) rfl dX5_counter_4 ?_
  have hP9 := hP.sub (ws' := [(h0, .inr (6, [.ref s0, .ref v0, .ref i0, .long tt, .long tg])), (s0, .inr (5, [.ref p0, .ref d0, .ref r0, .int (nI ct), .int (nI fp), .int fk, .int (nI sk)])), (p0, .inr (3, [.int (nI pB), .int (nI pS), .int (nI pG), .int (nI pE), .int (nI pC), .int (nI pO)])), (d0, .inr (2, [.ref d1, .int (nI n)])), (d1, .inl (cy 0, 70, .inl f)), (r0, .inr (2, [.ref r1, .int (nI rn)])), (r1, .inl (cy 0, 70, .inl rf)), (v0, .inr (4, [.ref p0, .ref e0, .int tm, .int cbf])), (e0, .inr (2, [.ref e1, .int (nI en)])), (e1, .inl (cy 0, 70, .inl ef)), (i0, .inr (1, [.ref i1, .int (nI w), .int gr, .int bt, .int jo])), (i1, .inl (cy 1, 10, .inl hf))]) [0, 1, 2, 3, 4, 5, 6, 7, 8, 9, 10, 11] rfl
  have hD9 := hD.sub (ws' := [(h0, .inr (6, [.ref s0, .ref v0, .ref i0, .long tt, .long tg])), (s0, .inr (5, [.ref p0, .ref d0, .ref r0, .int (nI ct), .int (nI fp), .int fk, .int (nI sk)])), (p0, .inr (3, [.int (nI pB), .int (nI pS), .int (nI pG), .int (nI pE), .int (nI pC), .int (nI pO)])), (d0, .inr (2, [.ref d1, .int (nI n)])), (d1, .inl (cy 0, 70, .inl f)), (r0, .inr (2, [.ref r1, .int (nI rn)])), (r1, .inl (cy 0, 70, .inl rf)), (v0, .inr (4, [.ref p0, .ref e0, .int tm, .int cbf])), (e0, .inr (2, [.ref e1, .int (nI en)])), (e1, .inl (cy 0, 70, .inl ef)), (i0, .inr (1, [.ref i1, .int (nI w), .int gr, .int bt, .int jo])), (i1, .inl (cy 1, 10, .inl hf))]) [0, 1, 2, 3, 4, 5, 6, 7, 8, 9, 10, 11] (by decide) rfl
  exact W.iret (v := nI ct) hx hb hr (fun t ht hW => ⟨⟨nI ct, (), rfl, rfl, by rw [ht]; exact hP9, hD9⟩, hS.F ht⟩) hS.2.2 dX5_counter_7

theorem iw_X5_state_X5 : ∀ w ∈ wsX50, w ∈ wsX5_state := by decide +kernel
theorem lk_X5_state_f34 : (.fieldLink RX5 34 "DataGuards" "history" "LDataGuards$History;" : Cond) ∈ wsX5_state := by decide +kernel
theorem iw_X5_state_X0 : ∀ w ∈ wsX00, w ∈ wsX5_state := by decide +kernel
set_option maxHeartbeats 4000000 in
set_option maxRecDepth 100000 in
theorem c_X5_state (l : Launch) (D : va_G) (cy : Nat → ClassId) (sz : Nat) (h0 : Nat) (s0 : Nat) (v0 : Nat) (i0 : Nat) (p0 : Nat) (d0 : Nat) (d1 : Nat) (r0 : Nat) (r1 : Nat) (e0 : Nat) (e1 : Nat) (i1 : Nat) (tt : Int64) (tg : Int64) (ct : Nat) (fp : Nat) (fk : Int32) (sk : Nat) (pB : Nat) (pS : Nat) (pG : Nat) (pE : Nat) (pC : Nat) (pO : Nat) (f : Nat → Int32) (n : Nat) (rf : Nat → Int32) (rn : Nat) (tm : Int32) (cbf : Int32) (ef : Nat → Int32) (en : Nat) (hf : Nat → Int32) (w : Nat) (gr : Int32) (bt : Int32) (jo : Int32)  : Met l yX5_state wsX5_state ({ frames := 0, cells := 0, slots := 0, locals := 0 } : Room) (pre1 D cy [.ref h0] [(h0, .inr (6, [.ref s0, .ref v0, .ref i0, .long tt, .long tg])), (s0, .inr (5, [.ref p0, .ref d0, .ref r0, .int (nI ct), .int (nI fp), .int fk, .int (nI sk)])), (p0, .inr (3, [.int (nI pB), .int (nI pS), .int (nI pG), .int (nI pE), .int (nI pC), .int (nI pO)])), (d0, .inr (2, [.ref d1, .int (nI n)])), (d1, .inl (cy 0, 70, .inl f)), (r0, .inr (2, [.ref r1, .int (nI rn)])), (r1, .inl (cy 0, 70, .inl rf)), (v0, .inr (4, [.ref p0, .ref e0, .int tm, .int cbf])), (e0, .inr (2, [.ref e1, .int (nI en)])), (e1, .inl (cy 0, 70, .inl ef)), (i0, .inr (1, [.ref i1, .int (nI w), .int gr, .int bt, .int jo])), (i1, .inl (cy 1, 10, .inl hf))] sz) (va_Qi (fun (r : Int32) (u : Unit) => r = jo) (fun u t => va_P D vwCl [(h0, .inr (6, [.ref s0, .ref v0, .ref i0, .long tt, .long tg])), (s0, .inr (5, [.ref p0, .ref d0, .ref r0, .int (nI ct), .int (nI fp), .int fk, .int (nI sk)])), (p0, .inr (3, [.int (nI pB), .int (nI pS), .int (nI pG), .int (nI pE), .int (nI pC), .int (nI pO)])), (d0, .inr (2, [.ref d1, .int (nI n)])), (d1, .inl (cy 0, 70, .inl f)), (r0, .inr (2, [.ref r1, .int (nI rn)])), (r1, .inl (cy 0, 70, .inl rf)), (v0, .inr (4, [.ref p0, .ref e0, .int tm, .int cbf])), (e0, .inr (2, [.ref e1, .int (nI en)])), (e1, .inl (cy 0, 70, .inl ef)), (i0, .inr (1, [.ref i1, .int (nI w), .int gr, .int bt, .int jo])), (i1, .inl (cy 1, 10, .inl hf))] t.heap ∧ va_D (va_A [(h0, .inr (6, [.ref s0, .ref v0, .ref i0, .long tt, .long tg])), (s0, .inr (5, [.ref p0, .ref d0, .ref r0, .int (nI ct), .int (nI fp), .int fk, .int (nI sk)])), (p0, .inr (3, [.int (nI pB), .int (nI pS), .int (nI pG), .int (nI pE), .int (nI pC), .int (nI pO)])), (d0, .inr (2, [.ref d1, .int (nI n)])), (d1, .inl (cy 0, 70, .inl f)), (r0, .inr (2, [.ref r1, .int (nI rn)])), (r1, .inl (cy 0, 70, .inl rf)), (v0, .inr (4, [.ref p0, .ref e0, .int tm, .int cbf])), (e0, .inr (2, [.ref e1, .int (nI en)])), (e1, .inl (cy 0, 70, .inl ef)), (i0, .inr (1, [.ref i1, .int (nI w), .int gr, .int bt, .int jo])), (i1, .inl (cy 1, 10, .inl hf))] sz) [(h0, .inr (6, [.ref s0, .ref v0, .ref i0, .long tt, .long tg])), (s0, .inr (5, [.ref p0, .ref d0, .ref r0, .int (nI ct), .int (nI fp), .int fk, .int (nI sk)])), (p0, .inr (3, [.int (nI pB), .int (nI pS), .int (nI pG), .int (nI pE), .int (nI pC), .int (nI pO)])), (d0, .inr (2, [.ref d1, .int (nI n)])), (d1, .inl (cy 0, 70, .inl f)), (r0, .inr (2, [.ref r1, .int (nI rn)])), (r1, .inl (cy 0, 70, .inl rf)), (v0, .inr (4, [.ref p0, .ref e0, .int tm, .int cbf])), (e0, .inr (2, [.ref e1, .int (nI en)])), (e1, .inl (cy 0, 70, .inl ef)), (i0, .inr (1, [.ref i1, .int (nI w), .int gr, .int bt, .int jo])), (i1, .inl (cy 1, 10, .inl hf))]) (va_A [(h0, .inr (6, [.ref s0, .ref v0, .ref i0, .long tt, .long tg])), (s0, .inr (5, [.ref p0, .ref d0, .ref r0, .int (nI ct), .int (nI fp), .int fk, .int (nI sk)])), (p0, .inr (3, [.int (nI pB), .int (nI pS), .int (nI pG), .int (nI pE), .int (nI pC), .int (nI pO)])), (d0, .inr (2, [.ref d1, .int (nI n)])), (d1, .inl (cy 0, 70, .inl f)), (r0, .inr (2, [.ref r1, .int (nI rn)])), (r1, .inl (cy 0, 70, .inl rf)), (v0, .inr (4, [.ref p0, .ref e0, .int tm, .int cbf])), (e0, .inr (2, [.ref e1, .int (nI en)])), (e1, .inl (cy 0, 70, .inl ef)), (i0, .inr (1, [.ref i1, .int (nI w), .int gr, .int bt, .int jo])), (i1, .inl (cy 1, 10, .inl hf))] sz)) 0 0 (va_A [(h0, .inr (6, [.ref s0, .ref v0, .ref i0, .long tt, .long tg])), (s0, .inr (5, [.ref p0, .ref d0, .ref r0, .int (nI ct), .int (nI fp), .int fk, .int (nI sk)])), (p0, .inr (3, [.int (nI pB), .int (nI pS), .int (nI pG), .int (nI pE), .int (nI pC), .int (nI pO)])), (d0, .inr (2, [.ref d1, .int (nI n)])), (d1, .inl (cy 0, 70, .inl f)), (r0, .inr (2, [.ref r1, .int (nI rn)])), (r1, .inl (cy 0, 70, .inl rf)), (v0, .inr (4, [.ref p0, .ref e0, .int tm, .int cbf])), (e0, .inr (2, [.ref e1, .int (nI en)])), (e1, .inl (cy 0, 70, .inl ef)), (i0, .inr (1, [.ref i1, .int (nI w), .int gr, .int bt, .int jo])), (i1, .inl (cy 1, 10, .inl hf))] sz) := by
  refine Met.ofW (cc := cX5_state) (maxL := 1) (ret := (some .int)) (by decide) rfl ?_
  intro p e s m args below meth c s₁ B hml hv
  obtain ⟨rfl, hsz, hP, hkk, hD0⟩ := hv
  have hx := B.exec
  have hb := B.bytes
  have hr := B.returns
  have hts := atoms_spec (ws := wsX5_state) B.pre
  have hown : s.vm.findClass RX5 = some m.cls := findClass_of_methodNamed B.named
  have hlocks := B.notSynchronized
  have hin : meth.name = _ := (name_of_methodNamed B.named B.method).1
  have hK := hkk.1
  subst hsz
  have hD := hD0.self (sz := s.heap.size)
  generalize hAe : va_A [(h0, .inr (6, [.ref s0, .ref v0, .ref i0, .long tt, .long tg])), (s0, .inr (5, [.ref p0, .ref d0, .ref r0, .int (nI ct), .int (nI fp), .int fk, .int (nI sk)])), (p0, .inr (3, [.int (nI pB), .int (nI pS), .int (nI pG), .int (nI pE), .int (nI pC), .int (nI pO)])), (d0, .inr (2, [.ref d1, .int (nI n)])), (d1, .inl (cy 0, 70, .inl f)), (r0, .inr (2, [.ref r1, .int (nI rn)])), (r1, .inl (cy 0, 70, .inl rf)), (v0, .inr (4, [.ref p0, .ref e0, .int tm, .int cbf])), (e0, .inr (2, [.ref e1, .int (nI en)])), (e1, .inl (cy 0, 70, .inl ef)), (i0, .inr (1, [.ref i1, .int (nI w), .int gr, .int bt, .int jo])), (i1, .inl (cy 1, 10, .inl hf))] s.heap.size = A at hD ⊢
  have hA : ∀ q : Nat, s.heap.size ≤ q → A q := fun q h => by rw [← hAe]; exact Or.inr h
  have hS : va_S A s.heap s.heap [] := va_S.rf
  have hP : va_P D vwCl [(h0, .inr (6, [.ref s0, .ref v0, .ref i0, .long tt, .long tg])), (s0, .inr (5, [.ref p0, .ref d0, .ref r0, .int (nI ct), .int (nI fp), .int fk, .int (nI sk)])), (p0, .inr (3, [.int (nI pB), .int (nI pS), .int (nI pG), .int (nI pE), .int (nI pC), .int (nI pO)])), (d0, .inr (2, [.ref d1, .int (nI n)])), (d1, .inl (cy 0, 70, .inl f)), (r0, .inr (2, [.ref r1, .int (nI rn)])), (r1, .inl (cy 0, 70, .inl rf)), (v0, .inr (4, [.ref p0, .ref e0, .int tm, .int cbf])), (e0, .inr (2, [.ref e1, .int (nI en)])), (e1, .inl (cy 0, 70, .inl ef)), (i0, .inr (1, [.ref i1, .int (nI w), .int gr, .int bt, .int jo])), (i1, .inl (cy 1, 10, .inl hf))] s.heap := hP
  have hl := lv_entry ([.ref h0]) (n := 1) (Nat.le_of_ble_eq_true rfl)
  rw [lg_entry_eq]
  generalize (lg_sl ([.ref h0]) ++ List.replicate (1 - (lg_sl ([.ref h0])).length) Slot.unset).toArray = ls at hl ⊢
  have hl : lv_has ls 1 [(0, .ref h0)] := hl
  refine lv_aload_n hx hb dX5_state_0 rfl (lv_at hl 0 rfl) ?_
  refine va_get (D := D) (ci := 6) (v := .ref i0) (C := RX5) (T := TX5) (N := 5) hx hb hts iw_X5_state_X5 hown hK hP 0 rfl rfl 2 (by decide) (hts _ lk_X5_state_f34) (fun _ h9 => h9) rfl dX5_state_1 ?_
  refine va_getN (D := D) (ci := 1) (v := .int jo) (C := RX0) (T := TX0) (N := 5) hx hb hts iw_X5_state_X0 hown hK hP 10 rfl rfl 4 (by decide) (nw_use 8 rfl rfl hkk.2) (fun _ h9 => h9) rfl dX5_state_4 ?_
  have hP9 := hP.sub (ws' := [(h0, .inr (6, [.ref s0, .ref v0, .ref i0, .long tt, .long tg])), (s0, .inr (5, [.ref p0, .ref d0, .ref r0, .int (nI ct), .int (nI fp), .int fk, .int (nI sk)])), (p0, .inr (3, [.int (nI pB), .int (nI pS), .int (nI pG), .int (nI pE), .int (nI pC), .int (nI pO)])), (d0, .inr (2, [.ref d1, .int (nI n)])), (d1, .inl (cy 0, 70, .inl f)), (r0, .inr (2, [.ref r1, .int (nI rn)])), (r1, .inl (cy 0, 70, .inl rf)), (v0, .inr (4, [.ref p0, .ref e0, .int tm, .int cbf])), (e0, .inr (2, [.ref e1, .int (nI en)])), (e1, .inl (cy 0, 70, .inl ef)), (i0, .inr (1, [.ref i1, .int (nI w), .int gr, .int bt, .int jo])), (i1, .inl (cy 1, 10, .inl hf))]) [0, 1, 2, 3, 4, 5, 6, 7, 8, 9, 10, 11] rfl
  have hD9 := hD.sub (ws' := [(h0, .inr (6, [.ref s0, .ref v0, .ref i0, .long tt, .long tg])), (s0, .inr (5, [.ref p0, .ref d0, .ref r0, .int (nI ct), .int (nI fp), .int fk, .int (nI sk)])), (p0, .inr (3, [.int (nI pB), .int (nI pS), .int (nI pG), .int (nI pE), .int (nI pC), .int (nI pO)])), (d0, .inr (2, [.ref d1, .int (nI n)])), (d1, .inl (cy 0, 70, .inl f)), (r0, .inr (2, [.ref r1, .int (nI rn)])), (r1, .inl (cy 0, 70, .inl rf)), (v0, .inr (4, [.ref p0, .ref e0, .int tm, .int cbf])), (e0, .inr (2, [.ref e1, .int (nI en)])), (e1, .inl (cy 0, 70, .inl ef)), (i0, .inr (1, [.ref i1, .int (nI w), .int gr, .int bt, .int jo])), (i1, .inl (cy 1, 10, .inl hf))]) [0, 1, 2, 3, 4, 5, 6, 7, 8, 9, 10, 11] (by decide) rfl
  exact W.iret (v := jo) hx hb hr (fun t ht hW => ⟨⟨jo, (), rfl, rfl, by rw [ht]; exact hP9, hD9⟩, hS.F ht⟩) hS.2.2 dX5_state_7

theorem iw_X5_valid_X5 : ∀ w ∈ wsX50, w ∈ wsX5_valid := by decide +kernel
theorem lk_X5_valid_f34 : (.fieldLink RX5 34 "DataGuards" "history" "LDataGuards$History;" : Cond) ∈ wsX5_valid := by decide +kernel
theorem iw_X5_valid_X0 : ∀ w ∈ wsX00, w ∈ wsX5_valid := by decide +kernel
set_option maxHeartbeats 4000000 in
set_option maxRecDepth 100000 in
theorem c_X5_valid (l : Launch) (D : va_G) (cy : Nat → ClassId) (sz : Nat) (h0 : Nat) (s0 : Nat) (v0 : Nat) (i0 : Nat) (p0 : Nat) (d0 : Nat) (d1 : Nat) (r0 : Nat) (r1 : Nat) (e0 : Nat) (e1 : Nat) (i1 : Nat) (tt : Int64) (tg : Int64) (ct : Nat) (fp : Nat) (fk : Int32) (sk : Nat) (pB : Nat) (pS : Nat) (pG : Nat) (pE : Nat) (pC : Nat) (pO : Nat) (f : Nat → Int32) (n : Nat) (rf : Nat → Int32) (rn : Nat) (tm : Int32) (cbf : Int32) (ef : Nat → Int32) (en : Nat) (hf : Nat → Int32) (w : Nat) (gr : Int32) (bt : Int32) (jo : Int32)  : Met l yX5_valid wsX5_valid ({ frames := 0, cells := 0, slots := 0, locals := 0 } : Room) (pre1 D cy [.ref h0] [(h0, .inr (6, [.ref s0, .ref v0, .ref i0, .long tt, .long tg])), (s0, .inr (5, [.ref p0, .ref d0, .ref r0, .int (nI ct), .int (nI fp), .int fk, .int (nI sk)])), (p0, .inr (3, [.int (nI pB), .int (nI pS), .int (nI pG), .int (nI pE), .int (nI pC), .int (nI pO)])), (d0, .inr (2, [.ref d1, .int (nI n)])), (d1, .inl (cy 0, 70, .inl f)), (r0, .inr (2, [.ref r1, .int (nI rn)])), (r1, .inl (cy 0, 70, .inl rf)), (v0, .inr (4, [.ref p0, .ref e0, .int tm, .int cbf])), (e0, .inr (2, [.ref e1, .int (nI en)])), (e1, .inl (cy 0, 70, .inl ef)), (i0, .inr (1, [.ref i1, .int (nI w), .int gr, .int bt, .int jo])), (i1, .inl (cy 1, 10, .inl hf))] sz) (va_Qi (fun (r : Int32) (u : Unit) => r = gr) (fun u t => va_P D vwCl [(h0, .inr (6, [.ref s0, .ref v0, .ref i0, .long tt, .long tg])), (s0, .inr (5, [.ref p0, .ref d0, .ref r0, .int (nI ct), .int (nI fp), .int fk, .int (nI sk)])), (p0, .inr (3, [.int (nI pB), .int (nI pS), .int (nI pG), .int (nI pE), .int (nI pC), .int (nI pO)])), (d0, .inr (2, [.ref d1, .int (nI n)])), (d1, .inl (cy 0, 70, .inl f)), (r0, .inr (2, [.ref r1, .int (nI rn)])), (r1, .inl (cy 0, 70, .inl rf)), (v0, .inr (4, [.ref p0, .ref e0, .int tm, .int cbf])), (e0, .inr (2, [.ref e1, .int (nI en)])), (e1, .inl (cy 0, 70, .inl ef)), (i0, .inr (1, [.ref i1, .int (nI w), .int gr, .int bt, .int jo])), (i1, .inl (cy 1, 10, .inl hf))] t.heap ∧ va_D (va_A [(h0, .inr (6, [.ref s0, .ref v0, .ref i0, .long tt, .long tg])), (s0, .inr (5, [.ref p0, .ref d0, .ref r0, .int (nI ct), .int (nI fp), .int fk, .int (nI sk)])), (p0, .inr (3, [.int (nI pB), .int (nI pS), .int (nI pG), .int (nI pE), .int (nI pC), .int (nI pO)])), (d0, .inr (2, [.ref d1, .int (nI n)])), (d1, .inl (cy 0, 70, .inl f)), (r0, .inr (2, [.ref r1, .int (nI rn)])), (r1, .inl (cy 0, 70, .inl rf)), (v0, .inr (4, [.ref p0, .ref e0, .int tm, .int cbf])), (e0, .inr (2, [.ref e1, .int (nI en)])), (e1, .inl (cy 0, 70, .inl ef)), (i0, .inr (1, [.ref i1, .int (nI w), .int gr, .int bt, .int jo])), (i1, .inl (cy 1, 10, .inl hf))] sz) [(h0, .inr (6, [.ref s0, .ref v0, .ref i0, .long tt, .long tg])), (s0, .inr (5, [.ref p0, .ref d0, .ref r0, .int (nI ct), .int (nI fp), .int fk, .int (nI sk)])), (p0, .inr (3, [.int (nI pB), .int (nI pS), .int (nI pG), .int (nI pE), .int (nI pC), .int (nI pO)])), (d0, .inr (2, [.ref d1, .int (nI n)])), (d1, .inl (cy 0, 70, .inl f)), (r0, .inr (2, [.ref r1, .int (nI rn)])), (r1, .inl (cy 0, 70, .inl rf)), (v0, .inr (4, [.ref p0, .ref e0, .int tm, .int cbf])), (e0, .inr (2, [.ref e1, .int (nI en)])), (e1, .inl (cy 0, 70, .inl ef)), (i0, .inr (1, [.ref i1, .int (nI w), .int gr, .int bt, .int jo])), (i1, .inl (cy 1, 10, .inl hf))]) (va_A [(h0, .inr (6, [.ref s0, .ref v0, .ref i0, .long tt, .long tg])), (s0, .inr (5, [.ref p0, .ref d0, .ref r0, .int (nI ct), .int (nI fp), .int fk, .int (nI sk)])), (p0, .inr (3, [.int (nI pB), .int (nI pS), .int (nI pG), .int (nI pE), .int (nI pC), .int (nI pO)])), (d0, .inr (2, [.ref d1, .int (nI n)])), (d1, .inl (cy 0, 70, .inl f)), (r0, .inr (2, [.ref r1, .int (nI rn)])), (r1, .inl (cy 0, 70, .inl rf)), (v0, .inr (4, [.ref p0, .ref e0, .int tm, .int cbf])), (e0, .inr (2, [.ref e1, .int (nI en)])), (e1, .inl (cy 0, 70, .inl ef)), (i0, .inr (1, [.ref i1, .int (nI w), .int gr, .int bt, .int jo])), (i1, .inl (cy 1, 10, .inl hf))] sz)) 0 0 (va_A [(h0, .inr (6, [.ref s0, .ref v0, .ref i0, .long tt, .long tg])), (s0, .inr (5, [.ref p0, .ref d0, .ref r0, .int (nI ct), .int (nI fp), .int fk, .int (nI sk)])), (p0, .inr (3, [.int (nI pB), .int (nI pS), .int (nI pG), .int (nI pE), .int (nI pC), .int (nI pO)])), (d0, .inr (2, [.ref d1, .int (nI n)])), (d1, .inl (cy 0, 70, .inl f)), (r0, .inr (2, [.ref r1, .int (nI rn)])), (r1, .inl (cy 0, 70, .inl rf)), (v0, .inr (4, [.ref p0, .ref e0, .int tm, .int cbf])), (e0, .inr (2, [.ref e1, .int (nI en)])), (e1, .inl (cy 0, 70, .inl ef)), (i0, .inr (1, [.ref i1, .int (nI w), .int gr, .int bt, .int jo])), (i1, .inl (cy 1, 10, .inl hf))] sz) := by
  refine Met.ofW (cc := cX5_valid) (maxL := 1) (ret := (some .int)) (by decide) rfl ?_
  intro p e s m args below meth c s₁ B hml hv
  obtain ⟨rfl, hsz, hP, hkk, hD0⟩ := hv
  have hx := B.exec
  have hb := B.bytes
  have hr := B.returns
  have hts := atoms_spec (ws := wsX5_valid) B.pre
  have hown : s.vm.findClass RX5 = some m.cls := findClass_of_methodNamed B.named
  have hlocks := B.notSynchronized
  have hin : meth.name = _ := (name_of_methodNamed B.named B.method).1
  have hK := hkk.1
  subst hsz
  have hD := hD0.self (sz := s.heap.size)
  generalize hAe : va_A [(h0, .inr (6, [.ref s0, .ref v0, .ref i0, .long tt, .long tg])), (s0, .inr (5, [.ref p0, .ref d0, .ref r0, .int (nI ct), .int (nI fp), .int fk, .int (nI sk)])), (p0, .inr (3, [.int (nI pB), .int (nI pS), .int (nI pG), .int (nI pE), .int (nI pC), .int (nI pO)])), (d0, .inr (2, [.ref d1, .int (nI n)])), (d1, .inl (cy 0, 70, .inl f)), (r0, .inr (2, [.ref r1, .int (nI rn)])), (r1, .inl (cy 0, 70, .inl rf)), (v0, .inr (4, [.ref p0, .ref e0, .int tm, .int cbf])), (e0, .inr (2, [.ref e1, .int (nI en)])), (e1, .inl (cy 0, 70, .inl ef)), (i0, .inr (1, [.ref i1, .int (nI w), .int gr, .int bt, .int jo])), (i1, .inl (cy 1, 10, .inl hf))] s.heap.size = A at hD ⊢
  have hA : ∀ q : Nat, s.heap.size ≤ q → A q := fun q h => by rw [← hAe]; exact Or.inr h
  have hS : va_S A s.heap s.heap [] := va_S.rf
  have hP : va_P D vwCl [(h0, .inr (6, [.ref s0, .ref v0, .ref i0, .long tt, .long tg])), (s0, .inr (5, [.ref p0, .ref d0, .ref r0, .int (nI ct), .int (nI fp), .int fk, .int (nI sk)])), (p0, .inr (3, [.int (nI pB), .int (nI pS), .int (nI pG), .int (nI pE), .int (nI pC), .int (nI pO)])), (d0, .inr (2, [.ref d1, .int (nI n)])), (d1, .inl (cy 0, 70, .inl f)), (r0, .inr (2, [.ref r1, .int (nI rn)])), (r1, .inl (cy 0, 70, .inl rf)), (v0, .inr (4, [.ref p0, .ref e0, .int tm, .int cbf])), (e0, .inr (2, [.ref e1, .int (nI en)])), (e1, .inl (cy 0, 70, .inl ef)), (i0, .inr (1, [.ref i1, .int (nI w), .int gr, .int bt, .int jo])), (i1, .inl (cy 1, 10, .inl hf))] s.heap := hP
  have hl := lv_entry ([.ref h0]) (n := 1) (Nat.le_of_ble_eq_true rfl)
  rw [lg_entry_eq]
  generalize (lg_sl ([.ref h0]) ++ List.replicate (1 - (lg_sl ([.ref h0])).length) Slot.unset).toArray = ls at hl ⊢
  have hl : lv_has ls 1 [(0, .ref h0)] := hl
  refine lv_aload_n hx hb dX5_valid_0 rfl (lv_at hl 0 rfl) ?_
  refine va_get (D := D) (ci := 6) (v := .ref i0) (C := RX5) (T := TX5) (N := 5) hx hb hts iw_X5_valid_X5 hown hK hP 0 rfl rfl 2 (by decide) (hts _ lk_X5_valid_f34) (fun _ h9 => h9) rfl dX5_valid_1 ?_
  refine va_getN (D := D) (ci := 1) (v := .int gr) (C := RX0) (T := TX0) (N := 5) hx hb hts iw_X5_valid_X0 hown hK hP 10 rfl rfl 2 (by decide) (nw_use 7 rfl rfl hkk.2) (fun _ h9 => h9) rfl dX5_valid_4 ?_
  have hP9 := hP.sub (ws' := [(h0, .inr (6, [.ref s0, .ref v0, .ref i0, .long tt, .long tg])), (s0, .inr (5, [.ref p0, .ref d0, .ref r0, .int (nI ct), .int (nI fp), .int fk, .int (nI sk)])), (p0, .inr (3, [.int (nI pB), .int (nI pS), .int (nI pG), .int (nI pE), .int (nI pC), .int (nI pO)])), (d0, .inr (2, [.ref d1, .int (nI n)])), (d1, .inl (cy 0, 70, .inl f)), (r0, .inr (2, [.ref r1, .int (nI rn)])), (r1, .inl (cy 0, 70, .inl rf)), (v0, .inr (4, [.ref p0, .ref e0, .int tm, .int cbf])), (e0, .inr (2, [.ref e1, .int (nI en)])), (e1, .inl (cy 0, 70, .inl ef)), (i0, .inr (1, [.ref i1, .int (nI w), .int gr, .int bt, .int jo])), (i1, .inl (cy 1, 10, .inl hf))]) [0, 1, 2, 3, 4, 5, 6, 7, 8, 9, 10, 11] rfl
  have hD9 := hD.sub (ws' := [(h0, .inr (6, [.ref s0, .ref v0, .ref i0, .long tt, .long tg])), (s0, .inr (5, [.ref p0, .ref d0, .ref r0, .int (nI ct), .int (nI fp), .int fk, .int (nI sk)])), (p0, .inr (3, [.int (nI pB), .int (nI pS), .int (nI pG), .int (nI pE), .int (nI pC), .int (nI pO)])), (d0, .inr (2, [.ref d1, .int (nI n)])), (d1, .inl (cy 0, 70, .inl f)), (r0, .inr (2, [.ref r1, .int (nI rn)])), (r1, .inl (cy 0, 70, .inl rf)), (v0, .inr (4, [.ref p0, .ref e0, .int tm, .int cbf])), (e0, .inr (2, [.ref e1, .int (nI en)])), (e1, .inl (cy 0, 70, .inl ef)), (i0, .inr (1, [.ref i1, .int (nI w), .int gr, .int bt, .int jo])), (i1, .inl (cy 1, 10, .inl hf))]) [0, 1, 2, 3, 4, 5, 6, 7, 8, 9, 10, 11] (by decide) rfl
  exact W.iret (v := gr) hx hb hr (fun t ht hW => ⟨⟨gr, (), rfl, rfl, by rw [ht]; exact hP9, hD9⟩, hS.F ht⟩) hS.2.2 dX5_valid_7

theorem iw_X5_span_X5 : ∀ w ∈ wsX50, w ∈ wsX5_span := by decide +kernel
theorem lk_X5_span_f34 : (.fieldLink RX5 34 "DataGuards" "history" "LDataGuards$History;" : Cond) ∈ wsX5_span := by decide +kernel
set_option maxHeartbeats 4000000 in
set_option maxRecDepth 100000 in
theorem c_X5_span (l : Launch) (D : va_G) (cy : Nat → ClassId) (sz : Nat) (h0 : Nat) (s0 : Nat) (v0 : Nat) (i0 : Nat) (p0 : Nat) (d0 : Nat) (d1 : Nat) (r0 : Nat) (r1 : Nat) (e0 : Nat) (e1 : Nat) (i1 : Nat) (tt : Int64) (tg : Int64) (ct : Nat) (fp : Nat) (fk : Int32) (sk : Nat) (pB : Nat) (pS : Nat) (pG : Nat) (pE : Nat) (pC : Nat) (pO : Nat) (f : Nat → Int32) (n : Nat) (rf : Nat → Int32) (rn : Nat) (tm : Int32) (cbf : Int32) (ef : Nat → Int32) (en : Nat) (hf : Nat → Int32) (w : Nat) (gr : Int32) (bt : Int32) (jo : Int32) (i : Int32) (hw9 : w ≤ 10) : Met l yX5_span wsX5_span ({ frames := 1, cells := 0, slots := 0, locals := 21 } : Room) (pre1 D cy [.ref h0, .int i] [(h0, .inr (6, [.ref s0, .ref v0, .ref i0, .long tt, .long tg])), (s0, .inr (5, [.ref p0, .ref d0, .ref r0, .int (nI ct), .int (nI fp), .int fk, .int (nI sk)])), (p0, .inr (3, [.int (nI pB), .int (nI pS), .int (nI pG), .int (nI pE), .int (nI pC), .int (nI pO)])), (d0, .inr (2, [.ref d1, .int (nI n)])), (d1, .inl (cy 0, 70, .inl f)), (r0, .inr (2, [.ref r1, .int (nI rn)])), (r1, .inl (cy 0, 70, .inl rf)), (v0, .inr (4, [.ref p0, .ref e0, .int tm, .int cbf])), (e0, .inr (2, [.ref e1, .int (nI en)])), (e1, .inl (cy 0, 70, .inl ef)), (i0, .inr (1, [.ref i1, .int (nI w), .int gr, .int bt, .int jo])), (i1, .inl (cy 1, 10, .inl hf))] sz) (va_Qi (fun (r : Int32) (u : Unit) => r = hi_f hf w i) (fun u t => va_P D vwCl [(h0, .inr (6, [.ref s0, .ref v0, .ref i0, .long tt, .long tg])), (s0, .inr (5, [.ref p0, .ref d0, .ref r0, .int (nI ct), .int (nI fp), .int fk, .int (nI sk)])), (p0, .inr (3, [.int (nI pB), .int (nI pS), .int (nI pG), .int (nI pE), .int (nI pC), .int (nI pO)])), (d0, .inr (2, [.ref d1, .int (nI n)])), (d1, .inl (cy 0, 70, .inl f)), (r0, .inr (2, [.ref r1, .int (nI rn)])), (r1, .inl (cy 0, 70, .inl rf)), (v0, .inr (4, [.ref p0, .ref e0, .int tm, .int cbf])), (e0, .inr (2, [.ref e1, .int (nI en)])), (e1, .inl (cy 0, 70, .inl ef)), (i0, .inr (1, [.ref i1, .int (nI w), .int gr, .int bt, .int jo])), (i1, .inl (cy 1, 10, .inl hf))] t.heap ∧ va_D (va_A [(h0, .inr (6, [.ref s0, .ref v0, .ref i0, .long tt, .long tg])), (s0, .inr (5, [.ref p0, .ref d0, .ref r0, .int (nI ct), .int (nI fp), .int fk, .int (nI sk)])), (p0, .inr (3, [.int (nI pB), .int (nI pS), .int (nI pG), .int (nI pE), .int (nI pC), .int (nI pO)])), (d0, .inr (2, [.ref d1, .int (nI n)])), (d1, .inl (cy 0, 70, .inl f)), (r0, .inr (2, [.ref r1, .int (nI rn)])), (r1, .inl (cy 0, 70, .inl rf)), (v0, .inr (4, [.ref p0, .ref e0, .int tm, .int cbf])), (e0, .inr (2, [.ref e1, .int (nI en)])), (e1, .inl (cy 0, 70, .inl ef)), (i0, .inr (1, [.ref i1, .int (nI w), .int gr, .int bt, .int jo])), (i1, .inl (cy 1, 10, .inl hf))] sz) [(h0, .inr (6, [.ref s0, .ref v0, .ref i0, .long tt, .long tg])), (s0, .inr (5, [.ref p0, .ref d0, .ref r0, .int (nI ct), .int (nI fp), .int fk, .int (nI sk)])), (p0, .inr (3, [.int (nI pB), .int (nI pS), .int (nI pG), .int (nI pE), .int (nI pC), .int (nI pO)])), (d0, .inr (2, [.ref d1, .int (nI n)])), (d1, .inl (cy 0, 70, .inl f)), (r0, .inr (2, [.ref r1, .int (nI rn)])), (r1, .inl (cy 0, 70, .inl rf)), (v0, .inr (4, [.ref p0, .ref e0, .int tm, .int cbf])), (e0, .inr (2, [.ref e1, .int (nI en)])), (e1, .inl (cy 0, 70, .inl ef)), (i0, .inr (1, [.ref i1, .int (nI w), .int gr, .int bt, .int jo])), (i1, .inl (cy 1, 10, .inl hf))]) (va_A [(h0, .inr (6, [.ref s0, .ref v0, .ref i0, .long tt, .long tg])), (s0, .inr (5, [.ref p0, .ref d0, .ref r0, .int (nI ct), .int (nI fp), .int fk, .int (nI sk)])), (p0, .inr (3, [.int (nI pB), .int (nI pS), .int (nI pG), .int (nI pE), .int (nI pC), .int (nI pO)])), (d0, .inr (2, [.ref d1, .int (nI n)])), (d1, .inl (cy 0, 70, .inl f)), (r0, .inr (2, [.ref r1, .int (nI rn)])), (r1, .inl (cy 0, 70, .inl rf)), (v0, .inr (4, [.ref p0, .ref e0, .int tm, .int cbf])), (e0, .inr (2, [.ref e1, .int (nI en)])), (e1, .inl (cy 0, 70, .inl ef)), (i0, .inr (1, [.ref i1, .int (nI w), .int gr, .int bt, .int jo])), (i1, .inl (cy 1, 10, .inl hf))] sz)) 0 0 (va_A [(h0, .inr (6, [.ref s0, .ref v0, .ref i0, .long tt, .long tg])), (s0, .inr (5, [.ref p0, .ref d0, .ref r0, .int (nI ct), .int (nI fp), .int fk, .int (nI sk)])), (p0, .inr (3, [.int (nI pB), .int (nI pS), .int (nI pG), .int (nI pE), .int (nI pC), .int (nI pO)])), (d0, .inr (2, [.ref d1, .int (nI n)])), (d1, .inl (cy 0, 70, .inl f)), (r0, .inr (2, [.ref r1, .int (nI rn)])), (r1, .inl (cy 0, 70, .inl rf)), (v0, .inr (4, [.ref p0, .ref e0, .int tm, .int cbf])), (e0, .inr (2, [.ref e1, .int (nI en)])), (e1, .inl (cy 0, 70, .inl ef)), (i0, .inr (1, [.ref i1, .int (nI w), .int gr, .int bt, .int jo])), (i1, .inl (cy 1, 10, .inl hf))] sz) := by
  refine Met.ofW (cc := cX5_span) (maxL := 2) (ret := (some .int)) (by decide) rfl ?_
  intro p e s m args below meth c s₁ B hml hv
  obtain ⟨rfl, hsz, hP, hkk, hD0⟩ := hv
  have hx := B.exec
  have hb := B.bytes
  have hr := B.returns
  have hts := atoms_spec (ws := wsX5_span) B.pre
  have hown : s.vm.findClass RX5 = some m.cls := findClass_of_methodNamed B.named
  have hlocks := B.notSynchronized
  have hin : meth.name = _ := (name_of_methodNamed B.named B.method).1
  have hK := hkk.1
  subst hsz
  have hD := hD0.self (sz := s.heap.size)
  generalize hAe : va_A [(h0, .inr (6, [.ref s0, .ref v0, .ref i0, .long tt, .long tg])), (s0, .inr (5, [.ref p0, .ref d0, .ref r0, .int (nI ct), .int (nI fp), .int fk, .int (nI sk)])), (p0, .inr (3, [.int (nI pB), .int (nI pS), .int (nI pG), .int (nI pE), .int (nI pC), .int (nI pO)])), (d0, .inr (2, [.ref d1, .int (nI n)])), (d1, .inl (cy 0, 70, .inl f)), (r0, .inr (2, [.ref r1, .int (nI rn)])), (r1, .inl (cy 0, 70, .inl rf)), (v0, .inr (4, [.ref p0, .ref e0, .int tm, .int cbf])), (e0, .inr (2, [.ref e1, .int (nI en)])), (e1, .inl (cy 0, 70, .inl ef)), (i0, .inr (1, [.ref i1, .int (nI w), .int gr, .int bt, .int jo])), (i1, .inl (cy 1, 10, .inl hf))] s.heap.size = A at hD ⊢
  have hA : ∀ q : Nat, s.heap.size ≤ q → A q := fun q h => by rw [← hAe]; exact Or.inr h
  have hS : va_S A s.heap s.heap [] := va_S.rf
  have hP : va_P D vwCl [(h0, .inr (6, [.ref s0, .ref v0, .ref i0, .long tt, .long tg])), (s0, .inr (5, [.ref p0, .ref d0, .ref r0, .int (nI ct), .int (nI fp), .int fk, .int (nI sk)])), (p0, .inr (3, [.int (nI pB), .int (nI pS), .int (nI pG), .int (nI pE), .int (nI pC), .int (nI pO)])), (d0, .inr (2, [.ref d1, .int (nI n)])), (d1, .inl (cy 0, 70, .inl f)), (r0, .inr (2, [.ref r1, .int (nI rn)])), (r1, .inl (cy 0, 70, .inl rf)), (v0, .inr (4, [.ref p0, .ref e0, .int tm, .int cbf])), (e0, .inr (2, [.ref e1, .int (nI en)])), (e1, .inl (cy 0, 70, .inl ef)), (i0, .inr (1, [.ref i1, .int (nI w), .int gr, .int bt, .int jo])), (i1, .inl (cy 1, 10, .inl hf))] s.heap := hP
  have hl := lv_entry ([.ref h0, .int i]) (n := 2) (Nat.le_of_ble_eq_true rfl)
  rw [lg_entry_eq]
  generalize (lg_sl ([.ref h0, .int i]) ++ List.replicate (2 - (lg_sl ([.ref h0, .int i])).length) Slot.unset).toArray = ls at hl ⊢
  have hl : lv_has ls 2 [(0, .ref h0), (1, .int i)] := hl
  refine lv_aload_n hx hb dX5_span_0 rfl (lv_at hl 0 rfl) ?_
  refine va_get (D := D) (ci := 6) (v := .ref i0) (C := RX5) (T := TX5) (N := 5) hx hb hts iw_X5_span_X5 hown hK hP 0 rfl rfl 2 (by decide) (hts _ lk_X5_span_f34) (fun _ h9 => h9) rfl dX5_span_1 ?_
  refine lv_iload_n hx hb dX5_span_4 rfl (lv_at hl 1 rfl) ?_
  have hPc := hP.sub (ws' := [(i0, .inr (1, [.ref i1, .int (nI w), .int gr, .int bt, .int jo])), (i1, .inl (cy 1, 10, .inl hf))]) [10, 11] rfl
  have hDc := hD.sub (ws' := [(i0, .inr (1, [.ref i1, .int (nI w), .int gr, .int bt, .int jo])), (i1, .inl (cy 1, 10, .inl hf))]) [10, 11] (by decide) rfl
  have hFc := va_free (wc := [(i0, .inr (1, [.ref i1, .int (nI w), .int gr, .int bt, .int jo])), (i1, .inl (cy 1, 10, .inl hf))]) hD hS hA [10, 11] rfl
  refine va_calli (va_runV (As := [.int i]) (rest := []) ⟨hx, hb, hml, hown, hts⟩ (c_X0_finding l D cy s.heap.size i0 i1 hf w gr bt jo i (by first | assumption | omega)) (cwV 1 hts gX5_span_X0_finding rfl rfl rfl (by decide +kernel) ⟨Nat.le_of_ble_eq_true rfl, Nat.le_of_ble_eq_true rfl⟩) (pv_V (ci := 1) (q := (RX0, TX0, 5)) hkk hPc hDc rfl rfl rfl) rfl rfl hl.1 rfl (lv_room (Nat.le_of_ble_eq_true rfl)) dX5_span_5 ⟨Nat.le_of_ble_eq_true rfl, Nat.le_of_ble_eq_true rfl⟩) hS (fun q _ h => hFc q h) hFc (fun r_5 u t H1 locs ht hvm hw hB hz1 hk1 hS => ?_)
  obtain ⟨hP1, hD1⟩ := hB
  rw [ht] at hP1
  try dsimp only at hw hP1 hD1
  obtain ⟨hP, hD⟩ := va_join (wr := [(h0, .inr (6, [.ref s0, .ref v0, .ref i0, .long tt, .long tg])), (s0, .inr (5, [.ref p0, .ref d0, .ref r0, .int (nI ct), .int (nI fp), .int fk, .int (nI sk)])), (p0, .inr (3, [.int (nI pB), .int (nI pS), .int (nI pG), .int (nI pE), .int (nI pC), .int (nI pO)])), (d0, .inr (2, [.ref d1, .int (nI n)])), (d1, .inl (cy 0, 70, .inl f)), (r0, .inr (2, [.ref r1, .int (nI rn)])), (r1, .inl (cy 0, 70, .inl rf)), (v0, .inr (4, [.ref p0, .ref e0, .int tm, .int cbf])), (e0, .inr (2, [.ref e1, .int (nI en)])), (e1, .inl (cy 0, 70, .inl ef))]) (w1 := [(i0, .inr (1, [.ref i1, .int (nI w), .int gr, .int bt, .int jo])), (i1, .inl (cy 1, 10, .inl hf))]) hP hD [10, 11] [0, 1, 2, 3, 4, 5, 6, 7, 8, 9] rfl rfl (by decide) (by decide) hk1 hFc hP1 hD1
  clear hPc hDc hFc hP1 hD1 hz1 hk1
  generalize H1 = H at hP hS ⊢
  have hP : va_P D vwCl [(h0, .inr (6, [.ref s0, .ref v0, .ref i0, .long tt, .long tg])), (s0, .inr (5, [.ref p0, .ref d0, .ref r0, .int (nI ct), .int (nI fp), .int fk, .int (nI sk)])), (p0, .inr (3, [.int (nI pB), .int (nI pS), .int (nI pG), .int (nI pE), .int (nI pC), .int (nI pO)])), (d0, .inr (2, [.ref d1, .int (nI n)])), (d1, .inl (cy 0, 70, .inl f)), (r0, .inr (2, [.ref r1, .int (nI rn)])), (r1, .inl (cy 0, 70, .inl rf)), (v0, .inr (4, [.ref p0, .ref e0, .int tm, .int cbf])), (e0, .inr (2, [.ref e1, .int (nI en)])), (e1, .inl (cy 0, 70, .inl ef)), (i0, .inr (1, [.ref i1, .int (nI w), .int gr, .int bt, .int jo])), (i1, .inl (cy 1, 10, .inl hf))] H := hP
  have hD : va_D A [(h0, .inr (6, [.ref s0, .ref v0, .ref i0, .long tt, .long tg])), (s0, .inr (5, [.ref p0, .ref d0, .ref r0, .int (nI ct), .int (nI fp), .int fk, .int (nI sk)])), (p0, .inr (3, [.int (nI pB), .int (nI pS), .int (nI pG), .int (nI pE), .int (nI pC), .int (nI pO)])), (d0, .inr (2, [.ref d1, .int (nI n)])), (d1, .inl (cy 0, 70, .inl f)), (r0, .inr (2, [.ref r1, .int (nI rn)])), (r1, .inl (cy 0, 70, .inl rf)), (v0, .inr (4, [.ref p0, .ref e0, .int tm, .int cbf])), (e0, .inr (2, [.ref e1, .int (nI en)])), (e1, .inl (cy 0, 70, .inl ef)), (i0, .inr (1, [.ref i1, .int (nI w), .int gr, .int bt, .int jo])), (i1, .inl (cy 1, 10, .inl hf))] := hD
  obtain rfl := hw
  have hP9 := hP.sub (ws' := [(h0, .inr (6, [.ref s0, .ref v0, .ref i0, .long tt, .long tg])), (s0, .inr (5, [.ref p0, .ref d0, .ref r0, .int (nI ct), .int (nI fp), .int fk, .int (nI sk)])), (p0, .inr (3, [.int (nI pB), .int (nI pS), .int (nI pG), .int (nI pE), .int (nI pC), .int (nI pO)])), (d0, .inr (2, [.ref d1, .int (nI n)])), (d1, .inl (cy 0, 70, .inl f)), (r0, .inr (2, [.ref r1, .int (nI rn)])), (r1, .inl (cy 0, 70, .inl rf)), (v0, .inr (4, [.ref p0, .ref e0, .int tm, .int cbf])), (e0, .inr (2, [.ref e1, .int (nI en)])), (e1, .inl (cy 0, 70, .inl ef)), (i0, .inr (1, [.ref i1, .int (nI w), .int gr, .int bt, .int jo])), (i1, .inl (cy 1, 10, .inl hf))]) [0, 1, 2, 3, 4, 5, 6, 7, 8, 9, 10, 11] rfl
  have hD9 := hD.sub (ws' := [(h0, .inr (6, [.ref s0, .ref v0, .ref i0, .long tt, .long tg])), (s0, .inr (5, [.ref p0, .ref d0, .ref r0, .int (nI ct), .int (nI fp), .int fk, .int (nI sk)])), (p0, .inr (3, [.int (nI pB), .int (nI pS), .int (nI pG), .int (nI pE), .int (nI pC), .int (nI pO)])), (d0, .inr (2, [.ref d1, .int (nI n)])), (d1, .inl (cy 0, 70, .inl f)), (r0, .inr (2, [.ref r1, .int (nI rn)])), (r1, .inl (cy 0, 70, .inl rf)), (v0, .inr (4, [.ref p0, .ref e0, .int tm, .int cbf])), (e0, .inr (2, [.ref e1, .int (nI en)])), (e1, .inl (cy 0, 70, .inl ef)), (i0, .inr (1, [.ref i1, .int (nI w), .int gr, .int bt, .int jo])), (i1, .inl (cy 1, 10, .inl hf))]) [0, 1, 2, 3, 4, 5, 6, 7, 8, 9, 10, 11] (by decide) rfl
  exact W.iret (v := hi_f hf w i) hx hb hr (fun t ht hW => ⟨⟨hi_f hf w i, (), rfl, rfl, by rw [ht]; exact hP9, hD9⟩, hS.F ht⟩) hS.2.2 dX5_span_8

theorem iw_X5_told_X5 : ∀ w ∈ wsX50, w ∈ wsX5_told := by decide +kernel
theorem lk_X5_told_f34 : (.fieldLink RX5 34 "DataGuards" "history" "LDataGuards$History;" : Cond) ∈ wsX5_told := by decide +kernel
set_option maxHeartbeats 4000000 in
set_option maxRecDepth 100000 in
theorem c_X5_told (l : Launch) (D : va_G) (cy : Nat → ClassId) (sz : Nat) (h0 : Nat) (s0 : Nat) (v0 : Nat) (i0 : Nat) (p0 : Nat) (d0 : Nat) (d1 : Nat) (r0 : Nat) (r1 : Nat) (e0 : Nat) (e1 : Nat) (i1 : Nat) (tt : Int64) (tg : Int64) (ct : Nat) (fp : Nat) (fk : Int32) (sk : Nat) (pB : Nat) (pS : Nat) (pG : Nat) (pE : Nat) (pC : Nat) (pO : Nat) (f : Nat → Int32) (n : Nat) (rf : Nat → Int32) (rn : Nat) (tm : Int32) (cbf : Int32) (ef : Nat → Int32) (en : Nat) (hf : Nat → Int32) (w : Nat) (gr : Int32) (bt : Int32) (jo : Int32) (i : Int32)  : Met l yX5_told wsX5_told ({ frames := 1, cells := 0, slots := 0, locals := 21 } : Room) (pre1 D cy [.ref h0, .int i] [(h0, .inr (6, [.ref s0, .ref v0, .ref i0, .long tt, .long tg])), (s0, .inr (5, [.ref p0, .ref d0, .ref r0, .int (nI ct), .int (nI fp), .int fk, .int (nI sk)])), (p0, .inr (3, [.int (nI pB), .int (nI pS), .int (nI pG), .int (nI pE), .int (nI pC), .int (nI pO)])), (d0, .inr (2, [.ref d1, .int (nI n)])), (d1, .inl (cy 0, 70, .inl f)), (r0, .inr (2, [.ref r1, .int (nI rn)])), (r1, .inl (cy 0, 70, .inl rf)), (v0, .inr (4, [.ref p0, .ref e0, .int tm, .int cbf])), (e0, .inr (2, [.ref e1, .int (nI en)])), (e1, .inl (cy 0, 70, .inl ef)), (i0, .inr (1, [.ref i1, .int (nI w), .int gr, .int bt, .int jo])), (i1, .inl (cy 1, 10, .inl hf))] sz) (va_Qi (fun (r : Int32) (u : Unit) => r = hi_e bt i) (fun u t => va_P D vwCl [(h0, .inr (6, [.ref s0, .ref v0, .ref i0, .long tt, .long tg])), (s0, .inr (5, [.ref p0, .ref d0, .ref r0, .int (nI ct), .int (nI fp), .int fk, .int (nI sk)])), (p0, .inr (3, [.int (nI pB), .int (nI pS), .int (nI pG), .int (nI pE), .int (nI pC), .int (nI pO)])), (d0, .inr (2, [.ref d1, .int (nI n)])), (d1, .inl (cy 0, 70, .inl f)), (r0, .inr (2, [.ref r1, .int (nI rn)])), (r1, .inl (cy 0, 70, .inl rf)), (v0, .inr (4, [.ref p0, .ref e0, .int tm, .int cbf])), (e0, .inr (2, [.ref e1, .int (nI en)])), (e1, .inl (cy 0, 70, .inl ef)), (i0, .inr (1, [.ref i1, .int (nI w), .int gr, .int bt, .int jo])), (i1, .inl (cy 1, 10, .inl hf))] t.heap ∧ va_D (va_A [(h0, .inr (6, [.ref s0, .ref v0, .ref i0, .long tt, .long tg])), (s0, .inr (5, [.ref p0, .ref d0, .ref r0, .int (nI ct), .int (nI fp), .int fk, .int (nI sk)])), (p0, .inr (3, [.int (nI pB), .int (nI pS), .int (nI pG), .int (nI pE), .int (nI pC), .int (nI pO)])), (d0, .inr (2, [.ref d1, .int (nI n)])), (d1, .inl (cy 0, 70, .inl f)), (r0, .inr (2, [.ref r1, .int (nI rn)])), (r1, .inl (cy 0, 70, .inl rf)), (v0, .inr (4, [.ref p0, .ref e0, .int tm, .int cbf])), (e0, .inr (2, [.ref e1, .int (nI en)])), (e1, .inl (cy 0, 70, .inl ef)), (i0, .inr (1, [.ref i1, .int (nI w), .int gr, .int bt, .int jo])), (i1, .inl (cy 1, 10, .inl hf))] sz) [(h0, .inr (6, [.ref s0, .ref v0, .ref i0, .long tt, .long tg])), (s0, .inr (5, [.ref p0, .ref d0, .ref r0, .int (nI ct), .int (nI fp), .int fk, .int (nI sk)])), (p0, .inr (3, [.int (nI pB), .int (nI pS), .int (nI pG), .int (nI pE), .int (nI pC), .int (nI pO)])), (d0, .inr (2, [.ref d1, .int (nI n)])), (d1, .inl (cy 0, 70, .inl f)), (r0, .inr (2, [.ref r1, .int (nI rn)])), (r1, .inl (cy 0, 70, .inl rf)), (v0, .inr (4, [.ref p0, .ref e0, .int tm, .int cbf])), (e0, .inr (2, [.ref e1, .int (nI en)])), (e1, .inl (cy 0, 70, .inl ef)), (i0, .inr (1, [.ref i1, .int (nI w), .int gr, .int bt, .int jo])), (i1, .inl (cy 1, 10, .inl hf))]) (va_A [(h0, .inr (6, [.ref s0, .ref v0, .ref i0, .long tt, .long tg])), (s0, .inr (5, [.ref p0, .ref d0, .ref r0, .int (nI ct), .int (nI fp), .int fk, .int (nI sk)])), (p0, .inr (3, [.int (nI pB), .int (nI pS), .int (nI pG), .int (nI pE), .int (nI pC), .int (nI pO)])), (d0, .inr (2, [.ref d1, .int (nI n)])), (d1, .inl (cy 0, 70, .inl f)), (r0, .inr (2, [.ref r1, .int (nI rn)])), (r1, .inl (cy 0, 70, .inl rf)), (v0, .inr (4, [.ref p0, .ref e0, .int tm, .int cbf])), (e0, .inr (2, [.ref e1, .int (nI en)])), (e1, .inl (cy 0, 70, .inl ef)), (i0, .inr (1, [.ref i1, .int (nI w), .int gr, .int bt, .int jo])), (i1, .inl (cy 1, 10, .inl hf))] sz)) 0 0 (va_A [(h0, .inr (6, [.ref s0, .ref v0, .ref i0, .long tt, .long tg])), (s0, .inr (5, [.ref p0, .ref d0, .ref r0, .int (nI ct), .int (nI fp), .int fk, .int (nI sk)])), (p0, .inr (3, [.int (nI pB), .int (nI pS), .int (nI pG), .int (nI pE), .int (nI pC), .int (nI pO)])), (d0, .inr (2, [.ref d1, .int (nI n)])), (d1, .inl (cy 0, 70, .inl f)), (r0, .inr (2, [.ref r1, .int (nI rn)])), (r1, .inl (cy 0, 70, .inl rf)), (v0, .inr (4, [.ref p0, .ref e0, .int tm, .int cbf])), (e0, .inr (2, [.ref e1, .int (nI en)])), (e1, .inl (cy 0, 70, .inl ef)), (i0, .inr (1, [.ref i1, .int (nI w), .int gr, .int bt, .int jo])), (i1, .inl (cy 1, 10, .inl hf))] sz) := by
  refine Met.ofW (cc := cX5_told) (maxL := 2) (ret := (some .boolean)) (by decide) rfl ?_
  intro p e s m args below meth c s₁ B hml hv
  obtain ⟨rfl, hsz, hP, hkk, hD0⟩ := hv
  have hx := B.exec
  have hb := B.bytes
  have hr := B.returns
  have hts := atoms_spec (ws := wsX5_told) B.pre
  have hown : s.vm.findClass RX5 = some m.cls := findClass_of_methodNamed B.named
  have hlocks := B.notSynchronized
  have hin : meth.name = _ := (name_of_methodNamed B.named B.method).1
  have hK := hkk.1
  subst hsz
  have hD := hD0.self (sz := s.heap.size)
  generalize hAe : va_A [(h0, .inr (6, [.ref s0, .ref v0, .ref i0, .long tt, .long tg])), (s0, .inr (5, [.ref p0, .ref d0, .ref r0, .int (nI ct), .int (nI fp), .int fk, .int (nI sk)])), (p0, .inr (3, [.int (nI pB), .int (nI pS), .int (nI pG), .int (nI pE), .int (nI pC), .int (nI pO)])), (d0, .inr (2, [.ref d1, .int (nI n)])), (d1, .inl (cy 0, 70, .inl f)), (r0, .inr (2, [.ref r1, .int (nI rn)])), (r1, .inl (cy 0, 70, .inl rf)), (v0, .inr (4, [.ref p0, .ref e0, .int tm, .int cbf])), (e0, .inr (2, [.ref e1, .int (nI en)])), (e1, .inl (cy 0, 70, .inl ef)), (i0, .inr (1, [.ref i1, .int (nI w), .int gr, .int bt, .int jo])), (i1, .inl (cy 1, 10, .inl hf))] s.heap.size = A at hD ⊢
  have hA : ∀ q : Nat, s.heap.size ≤ q → A q := fun q h => by rw [← hAe]; exact Or.inr h
  have hS : va_S A s.heap s.heap [] := va_S.rf
  have hP : va_P D vwCl [(h0, .inr (6, [.ref s0, .ref v0, .ref i0, .long tt, .long tg])), (s0, .inr (5, [.ref p0, .ref d0, .ref r0, .int (nI ct), .int (nI fp), .int fk, .int (nI sk)])), (p0, .inr (3, [.int (nI pB), .int (nI pS), .int (nI pG), .int (nI pE), .int (nI pC), .int (nI pO)])), (d0, .inr (2, [.ref d1, .int (nI n)])), (d1, .inl (cy 0, 70, .inl f)), (r0, .inr (2, [.ref r1, .int (nI rn)])), (r1, .inl (cy 0, 70, .inl rf)), (v0, .inr (4, [.ref p0, .ref e0, .int tm, .int cbf])), (e0, .inr (2, [.ref e1, .int (nI en)])), (e1, .inl (cy 0, 70, .inl ef)), (i0, .inr (1, [.ref i1, .int (nI w), .int gr, .int bt, .int jo])), (i1, .inl (cy 1, 10, .inl hf))] s.heap := hP
  have hl := lv_entry ([.ref h0, .int i]) (n := 2) (Nat.le_of_ble_eq_true rfl)
  rw [lg_entry_eq]
  generalize (lg_sl ([.ref h0, .int i]) ++ List.replicate (2 - (lg_sl ([.ref h0, .int i])).length) Slot.unset).toArray = ls at hl ⊢
  have hl : lv_has ls 2 [(0, .ref h0), (1, .int i)] := hl
  refine lv_aload_n hx hb dX5_told_0 rfl (lv_at hl 0 rfl) ?_
  refine va_get (D := D) (ci := 6) (v := .ref i0) (C := RX5) (T := TX5) (N := 5) hx hb hts iw_X5_told_X5 hown hK hP 0 rfl rfl 2 (by decide) (hts _ lk_X5_told_f34) (fun _ h9 => h9) rfl dX5_told_1 ?_
  refine lv_iload_n hx hb dX5_told_4 rfl (lv_at hl 1 rfl) ?_
  have hPc := hP.sub (ws' := [(i0, .inr (1, [.ref i1, .int (nI w), .int gr, .int bt, .int jo])), (i1, .inl (cy 1, 10, .inl hf))]) [10, 11] rfl
  have hDc := hD.sub (ws' := [(i0, .inr (1, [.ref i1, .int (nI w), .int gr, .int bt, .int jo])), (i1, .inl (cy 1, 10, .inl hf))]) [10, 11] (by decide) rfl
  have hFc := va_free (wc := [(i0, .inr (1, [.ref i1, .int (nI w), .int gr, .int bt, .int jo])), (i1, .inl (cy 1, 10, .inl hf))]) hD hS hA [10, 11] rfl
  refine va_calli (va_runV (As := [.int i]) (rest := []) ⟨hx, hb, hml, hown, hts⟩ (c_X0_everFound l D cy s.heap.size i0 i1 hf w gr bt jo i ) (cwV 1 hts gX5_told_X0_everFound rfl rfl rfl (by decide +kernel) ⟨Nat.le_of_ble_eq_true rfl, Nat.le_of_ble_eq_true rfl⟩) (pv_V (ci := 1) (q := (RX0, TX0, 5)) hkk hPc hDc rfl rfl rfl) rfl rfl hl.1 rfl (lv_room (Nat.le_of_ble_eq_true rfl)) dX5_told_5 ⟨Nat.le_of_ble_eq_true rfl, Nat.le_of_ble_eq_true rfl⟩) hS (fun q _ h => hFc q h) hFc (fun r_5 u t H1 locs ht hvm hw hB hz1 hk1 hS => ?_)
  obtain ⟨hP1, hD1⟩ := hB
  rw [ht] at hP1
  try dsimp only at hw hP1 hD1
  obtain ⟨hP, hD⟩ := va_join (wr := [(h0, .inr (6, [.ref s0, .ref v0, .ref i0, .long tt, .long tg])), (s0, .inr (5, [.ref p0, .ref d0, .ref r0, .int (nI ct), .int (nI fp), .int fk, .int (nI sk)])), (p0, .inr (3, [.int (nI pB), .int (nI pS), .int (nI pG), .int (nI pE), .int (nI pC), .int (nI pO)])), (d0, .inr (2, [.ref d1, .int (nI n)])), (d1, .inl (cy 0, 70, .inl f)), (r0, .inr (2, [.ref r1, .int (nI rn)])), (r1, .inl (cy 0, 70, .inl rf)), (v0, .inr (4, [.ref p0, .ref e0, .int tm, .int cbf])), (e0, .inr (2, [.ref e1, .int (nI en)])), (e1, .inl (cy 0, 70, .inl ef))]) (w1 := [(i0, .inr (1, [.ref i1, .int (nI w), .int gr, .int bt, .int jo])), (i1, .inl (cy 1, 10, .inl hf))]) hP hD [10, 11] [0, 1, 2, 3, 4, 5, 6, 7, 8, 9] rfl rfl (by decide) (by decide) hk1 hFc hP1 hD1
  clear hPc hDc hFc hP1 hD1 hz1 hk1
  generalize H1 = H at hP hS ⊢
  have hP : va_P D vwCl [(h0, .inr (6, [.ref s0, .ref v0, .ref i0, .long tt, .long tg])), (s0, .inr (5, [.ref p0, .ref d0, .ref r0, .int (nI ct), .int (nI fp), .int fk, .int (nI sk)])), (p0, .inr (3, [.int (nI pB), .int (nI pS), .int (nI pG), .int (nI pE), .int (nI pC), .int (nI pO)])), (d0, .inr (2, [.ref d1, .int (nI n)])), (d1, .inl (cy 0, 70, .inl f)), (r0, .inr (2, [.ref r1, .int (nI rn)])), (r1, .inl (cy 0, 70, .inl rf)), (v0, .inr (4, [.ref p0, .ref e0, .int tm, .int cbf])), (e0, .inr (2, [.ref e1, .int (nI en)])), (e1, .inl (cy 0, 70, .inl ef)), (i0, .inr (1, [.ref i1, .int (nI w), .int gr, .int bt, .int jo])), (i1, .inl (cy 1, 10, .inl hf))] H := hP
  have hD : va_D A [(h0, .inr (6, [.ref s0, .ref v0, .ref i0, .long tt, .long tg])), (s0, .inr (5, [.ref p0, .ref d0, .ref r0, .int (nI ct), .int (nI fp), .int fk, .int (nI sk)])), (p0, .inr (3, [.int (nI pB), .int (nI pS), .int (nI pG), .int (nI pE), .int (nI pC), .int (nI pO)])), (d0, .inr (2, [.ref d1, .int (nI n)])), (d1, .inl (cy 0, 70, .inl f)), (r0, .inr (2, [.ref r1, .int (nI rn)])), (r1, .inl (cy 0, 70, .inl rf)), (v0, .inr (4, [.ref p0, .ref e0, .int tm, .int cbf])), (e0, .inr (2, [.ref e1, .int (nI en)])), (e1, .inl (cy 0, 70, .inl ef)), (i0, .inr (1, [.ref i1, .int (nI w), .int gr, .int bt, .int jo])), (i1, .inl (cy 1, 10, .inl hf))] := hD
  obtain rfl := hw
  have hP9 := hP.sub (ws' := [(h0, .inr (6, [.ref s0, .ref v0, .ref i0, .long tt, .long tg])), (s0, .inr (5, [.ref p0, .ref d0, .ref r0, .int (nI ct), .int (nI fp), .int fk, .int (nI sk)])), (p0, .inr (3, [.int (nI pB), .int (nI pS), .int (nI pG), .int (nI pE), .int (nI pC), .int (nI pO)])), (d0, .inr (2, [.ref d1, .int (nI n)])), (d1, .inl (cy 0, 70, .inl f)), (r0, .inr (2, [.ref r1, .int (nI rn)])), (r1, .inl (cy 0, 70, .inl rf)), (v0, .inr (4, [.ref p0, .ref e0, .int tm, .int cbf])), (e0, .inr (2, [.ref e1, .int (nI en)])), (e1, .inl (cy 0, 70, .inl ef)), (i0, .inr (1, [.ref i1, .int (nI w), .int gr, .int bt, .int jo])), (i1, .inl (cy 1, 10, .inl hf))]) [0, 1, 2, 3, 4, 5, 6, 7, 8, 9, 10, 11] rfl
  have hD9 := hD.sub (ws' := [(h0, .inr (6, [.ref s0, .ref v0, .ref i0, .long tt, .long tg])), (s0, .inr (5, [.ref p0, .ref d0, .ref r0, .int (nI ct), .int (nI fp), .int fk, .int (nI sk)])), (p0, .inr (3, [.int (nI pB), .int (nI pS), .int (nI pG), .int (nI pE), .int (nI pC), .int (nI pO)])), (d0, .inr (2, [.ref d1, .int (nI n)])), (d1, .inl (cy 0, 70, .inl f)), (r0, .inr (2, [.ref r1, .int (nI rn)])), (r1, .inl (cy 0, 70, .inl rf)), (v0, .inr (4, [.ref p0, .ref e0, .int tm, .int cbf])), (e0, .inr (2, [.ref e1, .int (nI en)])), (e1, .inl (cy 0, 70, .inl ef)), (i0, .inr (1, [.ref i1, .int (nI w), .int gr, .int bt, .int jo])), (i1, .inl (cy 1, 10, .inl hf))]) [0, 1, 2, 3, 4, 5, 6, 7, 8, 9, 10, 11] (by decide) rfl
  exact W.zret (v := hi_e bt i) hx hb hr (hi_e_n bt i) (fun t ht hW => ⟨⟨hi_e bt i, (), rfl, rfl, by rw [ht]; exact hP9, hD9⟩, hS.F ht⟩) hS.2.2 dX5_told_8

theorem lk_X5_polynomial_k106 : (.constant RX5 106 (-189989101) : Cond) ∈ wsX5_polynomial := by decide +kernel
set_option maxHeartbeats 4000000 in
set_option maxRecDepth 100000 in
theorem c_X5_polynomial (l : Launch) (D : va_G) (cy : Nat → ClassId) (sz : Nat) (h0 : Nat) (s0 : Nat) (v0 : Nat) (i0 : Nat) (p0 : Nat) (d0 : Nat) (d1 : Nat) (r0 : Nat) (r1 : Nat) (e0 : Nat) (e1 : Nat) (i1 : Nat) (tt : Int64) (tg : Int64) (ct : Nat) (fp : Nat) (fk : Int32) (sk : Nat) (pB : Nat) (pS : Nat) (pG : Nat) (pE : Nat) (pC : Nat) (pO : Nat) (f : Nat → Int32) (n : Nat) (rf : Nat → Int32) (rn : Nat) (tm : Int32) (cbf : Int32) (ef : Nat → Int32) (en : Nat) (hf : Nat → Int32) (w : Nat) (gr : Int32) (bt : Int32) (jo : Int32) (x : Int32)  : Met l yX5_polynomial wsX5_polynomial ({ frames := 0, cells := 0, slots := 0, locals := 0 } : Room) (pre1 D cy [.ref h0, .int x] [(h0, .inr (6, [.ref s0, .ref v0, .ref i0, .long tt, .long tg])), (s0, .inr (5, [.ref p0, .ref d0, .ref r0, .int (nI ct), .int (nI fp), .int fk, .int (nI sk)])), (p0, .inr (3, [.int (nI pB), .int (nI pS), .int (nI pG), .int (nI pE), .int (nI pC), .int (nI pO)])), (d0, .inr (2, [.ref d1, .int (nI n)])), (d1, .inl (cy 0, 70, .inl f)), (r0, .inr (2, [.ref r1, .int (nI rn)])), (r1, .inl (cy 0, 70, .inl rf)), (v0, .inr (4, [.ref p0, .ref e0, .int tm, .int cbf])), (e0, .inr (2, [.ref e1, .int (nI en)])), (e1, .inl (cy 0, 70, .inl ef)), (i0, .inr (1, [.ref i1, .int (nI w), .int gr, .int bt, .int jo])), (i1, .inl (cy 1, 10, .inl hf))] sz) (va_Qi (fun (r : Int32) (u : Unit) => r = pol x) (fun u t => va_P D vwCl [(h0, .inr (6, [.ref s0, .ref v0, .ref i0, .long tt, .long tg])), (s0, .inr (5, [.ref p0, .ref d0, .ref r0, .int (nI ct), .int (nI fp), .int fk, .int (nI sk)])), (p0, .inr (3, [.int (nI pB), .int (nI pS), .int (nI pG), .int (nI pE), .int (nI pC), .int (nI pO)])), (d0, .inr (2, [.ref d1, .int (nI n)])), (d1, .inl (cy 0, 70, .inl f)), (r0, .inr (2, [.ref r1, .int (nI rn)])), (r1, .inl (cy 0, 70, .inl rf)), (v0, .inr (4, [.ref p0, .ref e0, .int tm, .int cbf])), (e0, .inr (2, [.ref e1, .int (nI en)])), (e1, .inl (cy 0, 70, .inl ef)), (i0, .inr (1, [.ref i1, .int (nI w), .int gr, .int bt, .int jo])), (i1, .inl (cy 1, 10, .inl hf))] t.heap ∧ va_D (va_A [(h0, .inr (6, [.ref s0, .ref v0, .ref i0, .long tt, .long tg])), (s0, .inr (5, [.ref p0, .ref d0, .ref r0, .int (nI ct), .int (nI fp), .int fk, .int (nI sk)])), (p0, .inr (3, [.int (nI pB), .int (nI pS), .int (nI pG), .int (nI pE), .int (nI pC), .int (nI pO)])), (d0, .inr (2, [.ref d1, .int (nI n)])), (d1, .inl (cy 0, 70, .inl f)), (r0, .inr (2, [.ref r1, .int (nI rn)])), (r1, .inl (cy 0, 70, .inl rf)), (v0, .inr (4, [.ref p0, .ref e0, .int tm, .int cbf])), (e0, .inr (2, [.ref e1, .int (nI en)])), (e1, .inl (cy 0, 70, .inl ef)), (i0, .inr (1, [.ref i1, .int (nI w), .int gr, .int bt, .int jo])), (i1, .inl (cy 1, 10, .inl hf))] sz) [(h0, .inr (6, [.ref s0, .ref v0, .ref i0, .long tt, .long tg])), (s0, .inr (5, [.ref p0, .ref d0, .ref r0, .int (nI ct), .int (nI fp), .int fk, .int (nI sk)])), (p0, .inr (3, [.int (nI pB), .int (nI pS), .int (nI pG), .int (nI pE), .int (nI pC), .int (nI pO)])), (d0, .inr (2, [.ref d1, .int (nI n)])), (d1, .inl (cy 0, 70, .inl f)), (r0, .inr (2, [.ref r1, .int (nI rn)])), (r1, .inl (cy 0, 70, .inl rf)), (v0, .inr (4, [.ref p0, .ref e0, .int tm, .int cbf])), (e0, .inr (2, [.ref e1, .int (nI en)])), (e1, .inl (cy 0, 70, .inl ef)), (i0, .inr (1, [.ref i1, .int (nI w), .int gr, .int bt, .int jo])), (i1, .inl (cy 1, 10, .inl hf))]) (va_A [(h0, .inr (6, [.ref s0, .ref v0, .ref i0, .long tt, .long tg])), (s0, .inr (5, [.ref p0, .ref d0, .ref r0, .int (nI ct), .int (nI fp), .int fk, .int (nI sk)])), (p0, .inr (3, [.int (nI pB), .int (nI pS), .int (nI pG), .int (nI pE), .int (nI pC), .int (nI pO)])), (d0, .inr (2, [.ref d1, .int (nI n)])), (d1, .inl (cy 0, 70, .inl f)), (r0, .inr (2, [.ref r1, .int (nI rn)])), (r1, .inl (cy 0, 70, .inl rf)), (v0, .inr (4, [.ref p0, .ref e0, .int tm, .int cbf])), (e0, .inr (2, [.ref e1, .int (nI en)])), (e1, .inl (cy 0, 70, .inl ef)), (i0, .inr (1, [.ref i1, .int (nI w), .int gr, .int bt, .int jo])), (i1, .inl (cy 1, 10, .inl hf))] sz)) 0 0 (va_A [(h0, .inr (6, [.ref s0, .ref v0, .ref i0, .long tt, .long tg])), (s0, .inr (5, [.ref p0, .ref d0, .ref r0, .int (nI ct), .int (nI fp), .int fk, .int (nI sk)])), (p0, .inr (3, [.int (nI pB), .int (nI pS), .int (nI pG), .int (nI pE), .int (nI pC), .int (nI pO)])), (d0, .inr (2, [.ref d1, .int (nI n)])), (d1, .inl (cy 0, 70, .inl f)), (r0, .inr (2, [.ref r1, .int (nI rn)])), (r1, .inl (cy 0, 70, .inl rf)), (v0, .inr (4, [.ref p0, .ref e0, .int tm, .int cbf])), (e0, .inr (2, [.ref e1, .int (nI en)])), (e1, .inl (cy 0, 70, .inl ef)), (i0, .inr (1, [.ref i1, .int (nI w), .int gr, .int bt, .int jo])), (i1, .inl (cy 1, 10, .inl hf))] sz) := by
  refine Met.ofW (cc := cX5_polynomial) (maxL := 2) (ret := (some .int)) (by decide) rfl ?_
  intro p e s m args below meth c s₁ B hml hv
  obtain ⟨rfl, hsz, hP, hkk, hD0⟩ := hv
  have hx := B.exec
  have hb := B.bytes
  have hr := B.returns
  have hts := atoms_spec (ws := wsX5_polynomial) B.pre
  have hown : s.vm.findClass RX5 = some m.cls := findClass_of_methodNamed B.named
  have hlocks := B.notSynchronized
  have hin : meth.name = _ := (name_of_methodNamed B.named B.method).1
  have hK := hkk.1
  subst hsz
  have hD := hD0.self (sz := s.heap.size)
  generalize hAe : va_A [(h0, .inr (6, [.ref s0, .ref v0, .ref i0, .long tt, .long tg])), (s0, .inr (5, [.ref p0, .ref d0, .ref r0, .int (nI ct), .int (nI fp), .int fk, .int (nI sk)])), (p0, .inr (3, [.int (nI pB), .int (nI pS), .int (nI pG), .int (nI pE), .int (nI pC), .int (nI pO)])), (d0, .inr (2, [.ref d1, .int (nI n)])), (d1, .inl (cy 0, 70, .inl f)), (r0, .inr (2, [.ref r1, .int (nI rn)])), (r1, .inl (cy 0, 70, .inl rf)), (v0, .inr (4, [.ref p0, .ref e0, .int tm, .int cbf])), (e0, .inr (2, [.ref e1, .int (nI en)])), (e1, .inl (cy 0, 70, .inl ef)), (i0, .inr (1, [.ref i1, .int (nI w), .int gr, .int bt, .int jo])), (i1, .inl (cy 1, 10, .inl hf))] s.heap.size = A at hD ⊢
  have hA : ∀ q : Nat, s.heap.size ≤ q → A q := fun q h => by rw [← hAe]; exact Or.inr h
  have hS : va_S A s.heap s.heap [] := va_S.rf
  have hP : va_P D vwCl [(h0, .inr (6, [.ref s0, .ref v0, .ref i0, .long tt, .long tg])), (s0, .inr (5, [.ref p0, .ref d0, .ref r0, .int (nI ct), .int (nI fp), .int fk, .int (nI sk)])), (p0, .inr (3, [.int (nI pB), .int (nI pS), .int (nI pG), .int (nI pE), .int (nI pC), .int (nI pO)])), (d0, .inr (2, [.ref d1, .int (nI n)])), (d1, .inl (cy 0, 70, .inl f)), (r0, .inr (2, [.ref r1, .int (nI rn)])), (r1, .inl (cy 0, 70, .inl rf)), (v0, .inr (4, [.ref p0, .ref e0, .int tm, .int cbf])), (e0, .inr (2, [.ref e1, .int (nI en)])), (e1, .inl (cy 0, 70, .inl ef)), (i0, .inr (1, [.ref i1, .int (nI w), .int gr, .int bt, .int jo])), (i1, .inl (cy 1, 10, .inl hf))] s.heap := hP
  have hl := lv_entry ([.ref h0, .int x]) (n := 2) (Nat.le_of_ble_eq_true rfl)
  rw [lg_entry_eq]
  generalize (lg_sl ([.ref h0, .int x]) ++ List.replicate (2 - (lg_sl ([.ref h0, .int x])).length) Slot.unset).toArray = ls at hl ⊢
  have hl : lv_has ls 2 [(0, .ref h0), (1, .int x)] := hl
  refine lv_iload_n hx hb dX5_polynomial_0 rfl (lv_at hl 1 rfl) ?_
  have hsw_1 : ∀ z : Int32, z = x → z = x := fun _ h => h
  by_cases sw_1_0 : x = 8
  · refine lv_lookup (tgt := 36) (off := 35) hx hb dX5_polynomial_1 (by decide) (by rw [sw_1_0]; decide) (by decide) ?_
    refine lv_bipush (v := 29) hx hb dX5_polynomial_36 (by decide) ?_
    have hP9 := hP.sub (ws' := [(h0, .inr (6, [.ref s0, .ref v0, .ref i0, .long tt, .long tg])), (s0, .inr (5, [.ref p0, .ref d0, .ref r0, .int (nI ct), .int (nI fp), .int fk, .int (nI sk)])), (p0, .inr (3, [.int (nI pB), .int (nI pS), .int (nI pG), .int (nI pE), .int (nI pC), .int (nI pO)])), (d0, .inr (2, [.ref d1, .int (nI n)])), (d1, .inl (cy 0, 70, .inl f)), (r0, .inr (2, [.ref r1, .int (nI rn)])), (r1, .inl (cy 0, 70, .inl rf)), (v0, .inr (4, [.ref p0, .ref e0, .int tm, .int cbf])), (e0, .inr (2, [.ref e1, .int (nI en)])), (e1, .inl (cy 0, 70, .inl ef)), (i0, .inr (1, [.ref i1, .int (nI w), .int gr, .int bt, .int jo])), (i1, .inl (cy 1, 10, .inl hf))]) [0, 1, 2, 3, 4, 5, 6, 7, 8, 9, 10, 11] rfl
    have hD9 := hD.sub (ws' := [(h0, .inr (6, [.ref s0, .ref v0, .ref i0, .long tt, .long tg])), (s0, .inr (5, [.ref p0, .ref d0, .ref r0, .int (nI ct), .int (nI fp), .int fk, .int (nI sk)])), (p0, .inr (3, [.int (nI pB), .int (nI pS), .int (nI pG), .int (nI pE), .int (nI pC), .int (nI pO)])), (d0, .inr (2, [.ref d1, .int (nI n)])), (d1, .inl (cy 0, 70, .inl f)), (r0, .inr (2, [.ref r1, .int (nI rn)])), (r1, .inl (cy 0, 70, .inl rf)), (v0, .inr (4, [.ref p0, .ref e0, .int tm, .int cbf])), (e0, .inr (2, [.ref e1, .int (nI en)])), (e1, .inl (cy 0, 70, .inl ef)), (i0, .inr (1, [.ref i1, .int (nI w), .int gr, .int bt, .int jo])), (i1, .inl (cy 1, 10, .inl hf))]) [0, 1, 2, 3, 4, 5, 6, 7, 8, 9, 10, 11] (by decide) rfl
    exact W.iret (v := 29) hx hb hr (fun t ht hW => ⟨⟨29, (), rfl, by unfold pol; rw [if_pos sw_1_0], by rw [ht]; exact hP9, hD9⟩, hS.F ht⟩) hS.2.2 dX5_polynomial_38
  by_cases sw_1_1 : x = 16
  · refine lv_lookup (tgt := 39) (off := 38) hx hb dX5_polynomial_1 (by decide) (by rw [sw_1_1]; decide) (by decide) ?_
    refine lv_sipush (v := 4129) hx hb dX5_polynomial_39 (by decide) ?_
    have hP9 := hP.sub (ws' := [(h0, .inr (6, [.ref s0, .ref v0, .ref i0, .long tt, .long tg])), (s0, .inr (5, [.ref p0, .ref d0, .ref r0, .int (nI ct), .int (nI fp), .int fk, .int (nI sk)])), (p0, .inr (3, [.int (nI pB), .int (nI pS), .int (nI pG), .int (nI pE), .int (nI pC), .int (nI pO)])), (d0, .inr (2, [.ref d1, .int (nI n)])), (d1, .inl (cy 0, 70, .inl f)), (r0, .inr (2, [.ref r1, .int (nI rn)])), (r1, .inl (cy 0, 70, .inl rf)), (v0, .inr (4, [.ref p0, .ref e0, .int tm, .int cbf])), (e0, .inr (2, [.ref e1, .int (nI en)])), (e1, .inl (cy 0, 70, .inl ef)), (i0, .inr (1, [.ref i1, .int (nI w), .int gr, .int bt, .int jo])), (i1, .inl (cy 1, 10, .inl hf))]) [0, 1, 2, 3, 4, 5, 6, 7, 8, 9, 10, 11] rfl
    have hD9 := hD.sub (ws' := [(h0, .inr (6, [.ref s0, .ref v0, .ref i0, .long tt, .long tg])), (s0, .inr (5, [.ref p0, .ref d0, .ref r0, .int (nI ct), .int (nI fp), .int fk, .int (nI sk)])), (p0, .inr (3, [.int (nI pB), .int (nI pS), .int (nI pG), .int (nI pE), .int (nI pC), .int (nI pO)])), (d0, .inr (2, [.ref d1, .int (nI n)])), (d1, .inl (cy 0, 70, .inl f)), (r0, .inr (2, [.ref r1, .int (nI rn)])), (r1, .inl (cy 0, 70, .inl rf)), (v0, .inr (4, [.ref p0, .ref e0, .int tm, .int cbf])), (e0, .inr (2, [.ref e1, .int (nI en)])), (e1, .inl (cy 0, 70, .inl ef)), (i0, .inr (1, [.ref i1, .int (nI w), .int gr, .int bt, .int jo])), (i1, .inl (cy 1, 10, .inl hf))]) [0, 1, 2, 3, 4, 5, 6, 7, 8, 9, 10, 11] (by decide) rfl
    exact W.iret (v := 4129) hx hb hr (fun t ht hW => ⟨⟨4129, (), rfl, by unfold pol; rw [if_neg sw_1_0, if_pos sw_1_1], by rw [ht]; exact hP9, hD9⟩, hS.F ht⟩) hS.2.2 dX5_polynomial_42
  by_cases sw_1_2 : x = 32
  · refine lv_lookup (tgt := 43) (off := 42) hx hb dX5_polynomial_1 (by decide) (by rw [sw_1_2]; decide) (by decide) ?_
    refine lv_ldc (v := (-189989101)) hx hb hown (hts _ lk_X5_polynomial_k106) dX5_polynomial_43 ?_
    have hP9 := hP.sub (ws' := [(h0, .inr (6, [.ref s0, .ref v0, .ref i0, .long tt, .long tg])), (s0, .inr (5, [.ref p0, .ref d0, .ref r0, .int (nI ct), .int (nI fp), .int fk, .int (nI sk)])), (p0, .inr (3, [.int (nI pB), .int (nI pS), .int (nI pG), .int (nI pE), .int (nI pC), .int (nI pO)])), (d0, .inr (2, [.ref d1, .int (nI n)])), (d1, .inl (cy 0, 70, .inl f)), (r0, .inr (2, [.ref r1, .int (nI rn)])), (r1, .inl (cy 0, 70, .inl rf)), (v0, .inr (4, [.ref p0, .ref e0, .int tm, .int cbf])), (e0, .inr (2, [.ref e1, .int (nI en)])), (e1, .inl (cy 0, 70, .inl ef)), (i0, .inr (1, [.ref i1, .int (nI w), .int gr, .int bt, .int jo])), (i1, .inl (cy 1, 10, .inl hf))]) [0, 1, 2, 3, 4, 5, 6, 7, 8, 9, 10, 11] rfl
    have hD9 := hD.sub (ws' := [(h0, .inr (6, [.ref s0, .ref v0, .ref i0, .long tt, .long tg])), (s0, .inr (5, [.ref p0, .ref d0, .ref r0, .int (nI ct), .int (nI fp), .int fk, .int (nI sk)])), (p0, .inr (3, [.int (nI pB), .int (nI pS), .int (nI pG), .int (nI pE), .int (nI pC), .int (nI pO)])), (d0, .inr (2, [.ref d1, .int (nI n)])), (d1, .inl (cy 0, 70, .inl f)), (r0, .inr (2, [.ref r1, .int (nI rn)])), (r1, .inl (cy 0, 70, .inl rf)), (v0, .inr (4, [.ref p0, .ref e0, .int tm, .int cbf])), (e0, .inr (2, [.ref e1, .int (nI en)])), (e1, .inl (cy 0, 70, .inl ef)), (i0, .inr (1, [.ref i1, .int (nI w), .int gr, .int bt, .int jo])), (i1, .inl (cy 1, 10, .inl hf))]) [0, 1, 2, 3, 4, 5, 6, 7, 8, 9, 10, 11] (by decide) rfl
    exact W.iret (v := (-189989101)) hx hb hr (fun t ht hW => ⟨⟨(-189989101), (), rfl, by unfold pol; rw [if_neg sw_1_0, if_neg sw_1_1, if_pos sw_1_2], by rw [ht]; exact hP9, hD9⟩, hS.F ht⟩) hS.2.2 dX5_polynomial_45
  refine lv_lookup (tgt := 46) (off := 45) hx hb dX5_polynomial_1 (by decide) (by show Op.lookupswitch.offset [(8, 35), (16, 38), (32, 42)] 45 _ = _; rw [lv_osw sw_1_0 (k := 8) (a := 8) (by decide), lv_osw sw_1_1 (k := 16) (a := 16) (by decide), lv_osw sw_1_2 (k := 32) (a := 32) (by decide)]; rfl) (by decide) ?_
  refine lv_iconst (v := (-1)) hx hb dX5_polynomial_46 (by decide) ?_
  have hP9 := hP.sub (ws' := [(h0, .inr (6, [.ref s0, .ref v0, .ref i0, .long tt, .long tg])), (s0, .inr (5, [.ref p0, .ref d0, .ref r0, .int (nI ct), .int (nI fp), .int fk, .int (nI sk)])), (p0, .inr (3, [.int (nI pB), .int (nI pS), .int (nI pG), .int (nI pE), .int (nI pC), .int (nI pO)])), (d0, .inr (2, [.ref d1, .int (nI n)])), (d1, .inl (cy 0, 70, .inl f)), (r0, .inr (2, [.ref r1, .int (nI rn)])), (r1, .inl (cy 0, 70, .inl rf)), (v0, .inr (4, [.ref p0, .ref e0, .int tm, .int cbf])), (e0, .inr (2, [.ref e1, .int (nI en)])), (e1, .inl (cy 0, 70, .inl ef)), (i0, .inr (1, [.ref i1, .int (nI w), .int gr, .int bt, .int jo])), (i1, .inl (cy 1, 10, .inl hf))]) [0, 1, 2, 3, 4, 5, 6, 7, 8, 9, 10, 11] rfl
  have hD9 := hD.sub (ws' := [(h0, .inr (6, [.ref s0, .ref v0, .ref i0, .long tt, .long tg])), (s0, .inr (5, [.ref p0, .ref d0, .ref r0, .int (nI ct), .int (nI fp), .int fk, .int (nI sk)])), (p0, .inr (3, [.int (nI pB), .int (nI pS), .int (nI pG), .int (nI pE), .int (nI pC), .int (nI pO)])), (d0, .inr (2, [.ref d1, .int (nI n)])), (d1, .inl (cy 0, 70, .inl f)), (r0, .inr (2, [.ref r1, .int (nI rn)])), (r1, .inl (cy 0, 70, .inl rf)), (v0, .inr (4, [.ref p0, .ref e0, .int tm, .int cbf])), (e0, .inr (2, [.ref e1, .int (nI en)])), (e1, .inl (cy 0, 70, .inl ef)), (i0, .inr (1, [.ref i1, .int (nI w), .int gr, .int bt, .int jo])), (i1, .inl (cy 1, 10, .inl hf))]) [0, 1, 2, 3, 4, 5, 6, 7, 8, 9, 10, 11] (by decide) rfl
  exact W.iret (v := (-1)) hx hb hr (fun t ht hW => ⟨⟨(-1), (), rfl, by unfold pol; rw [if_neg sw_1_0, if_neg sw_1_1, if_neg sw_1_2], by rw [ht]; exact hP9, hD9⟩, hS.F ht⟩) hS.2.2 dX5_polynomial_47

theorem iw_X5_plant_X5 : ∀ w ∈ wsX50, w ∈ wsX5_plant := by decide +kernel
theorem lk_X5_plant_f18 : (.fieldLink RX5 18 "DataGuards" "sender" "LDataGuards$Sender;" : Cond) ∈ wsX5_plant := by decide +kernel
set_option maxHeartbeats 4000000 in
set_option maxRecDepth 100000 in
theorem c_X5_plant (l : Launch) (D : va_G) (cy : Nat → ClassId) (sz : Nat) (h0 : Nat) (s0 : Nat) (v0 : Nat) (i0 : Nat) (p0 : Nat) (d0 : Nat) (d1 : Nat) (r0 : Nat) (r1 : Nat) (e0 : Nat) (e1 : Nat) (i1 : Nat) (tt : Int64) (tg : Int64) (ct : Nat) (fp : Nat) (fk : Int32) (sk : Nat) (pB : Nat) (pS : Nat) (pG : Nat) (pE : Nat) (pC : Nat) (pO : Nat) (f : Nat → Int32) (n : Nat) (rf : Nat → Int32) (rn : Nat) (tm : Int32) (cbf : Int32) (ef : Nat → Int32) (en : Nat) (hf : Nat → Int32) (w : Nat) (gr : Int32) (bt : Int32) (jo : Int32) (k : Int32) (x : Int32) (y : Int32)  : Met l yX5_plant wsX5_plant ({ frames := 1, cells := 0, slots := 0, locals := 22 } : Room) (pre1 D cy [.ref h0, .int k, .int x, .int y] [(h0, .inr (6, [.ref s0, .ref v0, .ref i0, .long tt, .long tg])), (s0, .inr (5, [.ref p0, .ref d0, .ref r0, .int (nI ct), .int (nI fp), .int fk, .int (nI sk)])), (p0, .inr (3, [.int (nI pB), .int (nI pS), .int (nI pG), .int (nI pE), .int (nI pC), .int (nI pO)])), (d0, .inr (2, [.ref d1, .int (nI n)])), (d1, .inl (cy 0, 70, .inl f)), (r0, .inr (2, [.ref r1, .int (nI rn)])), (r1, .inl (cy 0, 70, .inl rf)), (v0, .inr (4, [.ref p0, .ref e0, .int tm, .int cbf])), (e0, .inr (2, [.ref e1, .int (nI en)])), (e1, .inl (cy 0, 70, .inl ef)), (i0, .inr (1, [.ref i1, .int (nI w), .int gr, .int bt, .int jo])), (i1, .inl (cy 1, 10, .inl hf))] sz) (va_Qi (fun (r : Int32) (u : (Nat) × (Nat) × (Int32)) => (dpl k x y fp sk fk r u.1 u.2.1 u.2.2)) (fun u t => va_P D vwCl [(h0, .inr (6, [.ref s0, .ref v0, .ref i0, .long tt, .long tg])), (s0, .inr (5, [.ref p0, .ref d0, .ref r0, .int (nI ct), .int (nI u.1), .int u.2.2, .int (nI u.2.1)])), (p0, .inr (3, [.int (nI pB), .int (nI pS), .int (nI pG), .int (nI pE), .int (nI pC), .int (nI pO)])), (d0, .inr (2, [.ref d1, .int (nI n)])), (d1, .inl (cy 0, 70, .inl f)), (r0, .inr (2, [.ref r1, .int (nI rn)])), (r1, .inl (cy 0, 70, .inl rf)), (v0, .inr (4, [.ref p0, .ref e0, .int tm, .int cbf])), (e0, .inr (2, [.ref e1, .int (nI en)])), (e1, .inl (cy 0, 70, .inl ef)), (i0, .inr (1, [.ref i1, .int (nI w), .int gr, .int bt, .int jo])), (i1, .inl (cy 1, 10, .inl hf))] t.heap ∧ va_D (va_A [(h0, .inr (6, [.ref s0, .ref v0, .ref i0, .long tt, .long tg])), (s0, .inr (5, [.ref p0, .ref d0, .ref r0, .int (nI ct), .int (nI fp), .int fk, .int (nI sk)])), (p0, .inr (3, [.int (nI pB), .int (nI pS), .int (nI pG), .int (nI pE), .int (nI pC), .int (nI pO)])), (d0, .inr (2, [.ref d1, .int (nI n)])), (d1, .inl (cy 0, 70, .inl f)), (r0, .inr (2, [.ref r1, .int (nI rn)])), (r1, .inl (cy 0, 70, .inl rf)), (v0, .inr (4, [.ref p0, .ref e0, .int tm, .int cbf])), (e0, .inr (2, [.ref e1, .int (nI en)])), (e1, .inl (cy 0, 70, .inl ef)), (i0, .inr (1, [.ref i1, .int (nI w), .int gr, .int bt, .int jo])), (i1, .inl (cy 1, 10, .inl hf))] sz) [(h0, .inr (6, [.ref s0, .ref v0, .ref i0, .long tt, .long tg])), (s0, .inr (5, [.ref p0, .ref d0, .ref r0, .int (nI ct), .int (nI u.1), .int u.2.2, .int (nI u.2.1)])), (p0, .inr (3, [.int (nI pB), .int (nI pS), .int (nI pG), .int (nI pE), .int (nI pC), .int (nI pO)])), (d0, .inr (2, [.ref d1, .int (nI n)])), (d1, .inl (cy 0, 70, .inl f)), (r0, .inr (2, [.ref r1, .int (nI rn)])), (r1, .inl (cy 0, 70, .inl rf)), (v0, .inr (4, [.ref p0, .ref e0, .int tm, .int cbf])), (e0, .inr (2, [.ref e1, .int (nI en)])), (e1, .inl (cy 0, 70, .inl ef)), (i0, .inr (1, [.ref i1, .int (nI w), .int gr, .int bt, .int jo])), (i1, .inl (cy 1, 10, .inl hf))]) (va_A [(h0, .inr (6, [.ref s0, .ref v0, .ref i0, .long tt, .long tg])), (s0, .inr (5, [.ref p0, .ref d0, .ref r0, .int (nI ct), .int (nI fp), .int fk, .int (nI sk)])), (p0, .inr (3, [.int (nI pB), .int (nI pS), .int (nI pG), .int (nI pE), .int (nI pC), .int (nI pO)])), (d0, .inr (2, [.ref d1, .int (nI n)])), (d1, .inl (cy 0, 70, .inl f)), (r0, .inr (2, [.ref r1, .int (nI rn)])), (r1, .inl (cy 0, 70, .inl rf)), (v0, .inr (4, [.ref p0, .ref e0, .int tm, .int cbf])), (e0, .inr (2, [.ref e1, .int (nI en)])), (e1, .inl (cy 0, 70, .inl ef)), (i0, .inr (1, [.ref i1, .int (nI w), .int gr, .int bt, .int jo])), (i1, .inl (cy 1, 10, .inl hf))] sz)) 0 0 (va_A [(h0, .inr (6, [.ref s0, .ref v0, .ref i0, .long tt, .long tg])), (s0, .inr (5, [.ref p0, .ref d0, .ref r0, .int (nI ct), .int (nI fp), .int fk, .int (nI sk)])), (p0, .inr (3, [.int (nI pB), .int (nI pS), .int (nI pG), .int (nI pE), .int (nI pC), .int (nI pO)])), (d0, .inr (2, [.ref d1, .int (nI n)])), (d1, .inl (cy 0, 70, .inl f)), (r0, .inr (2, [.ref r1, .int (nI rn)])), (r1, .inl (cy 0, 70, .inl rf)), (v0, .inr (4, [.ref p0, .ref e0, .int tm, .int cbf])), (e0, .inr (2, [.ref e1, .int (nI en)])), (e1, .inl (cy 0, 70, .inl ef)), (i0, .inr (1, [.ref i1, .int (nI w), .int gr, .int bt, .int jo])), (i1, .inl (cy 1, 10, .inl hf))] sz) := by
  refine Met.ofW (cc := cX5_plant) (maxL := 4) (ret := (some .int)) (by decide) rfl ?_
  intro p e s m args below meth c s₁ B hml hv
  obtain ⟨rfl, hsz, hP, hkk, hD0⟩ := hv
  have hx := B.exec
  have hb := B.bytes
  have hr := B.returns
  have hts := atoms_spec (ws := wsX5_plant) B.pre
  have hown : s.vm.findClass RX5 = some m.cls := findClass_of_methodNamed B.named
  have hlocks := B.notSynchronized
  have hin : meth.name = _ := (name_of_methodNamed B.named B.method).1
  have hK := hkk.1
  subst hsz
  have hD := hD0.self (sz := s.heap.size)
  generalize hAe : va_A [(h0, .inr (6, [.ref s0, .ref v0, .ref i0, .long tt, .long tg])), (s0, .inr (5, [.ref p0, .ref d0, .ref r0, .int (nI ct), .int (nI fp), .int fk, .int (nI sk)])), (p0, .inr (3, [.int (nI pB), .int (nI pS), .int (nI pG), .int (nI pE), .int (nI pC), .int (nI pO)])), (d0, .inr (2, [.ref d1, .int (nI n)])), (d1, .inl (cy 0, 70, .inl f)), (r0, .inr (2, [.ref r1, .int (nI rn)])), (r1, .inl (cy 0, 70, .inl rf)), (v0, .inr (4, [.ref p0, .ref e0, .int tm, .int cbf])), (e0, .inr (2, [.ref e1, .int (nI en)])), (e1, .inl (cy 0, 70, .inl ef)), (i0, .inr (1, [.ref i1, .int (nI w), .int gr, .int bt, .int jo])), (i1, .inl (cy 1, 10, .inl hf))] s.heap.size = A at hD ⊢
  have hA : ∀ q : Nat, s.heap.size ≤ q → A q := fun q h => by rw [← hAe]; exact Or.inr h
  have hS : va_S A s.heap s.heap [] := va_S.rf
  have hP : va_P D vwCl [(h0, .inr (6, [.ref s0, .ref v0, .ref i0, .long tt, .long tg])), (s0, .inr (5, [.ref p0, .ref d0, .ref r0, .int (nI ct), .int (nI fp), .int fk, .int (nI sk)])), (p0, .inr (3, [.int (nI pB), .int (nI pS), .int (nI pG), .int (nI pE), .int (nI pC), .int (nI pO)])), (d0, .inr (2, [.ref d1, .int (nI n)])), (d1, .inl (cy 0, 70, .inl f)), (r0, .inr (2, [.ref r1, .int (nI rn)])), (r1, .inl (cy 0, 70, .inl rf)), (v0, .inr (4, [.ref p0, .ref e0, .int tm, .int cbf])), (e0, .inr (2, [.ref e1, .int (nI en)])), (e1, .inl (cy 0, 70, .inl ef)), (i0, .inr (1, [.ref i1, .int (nI w), .int gr, .int bt, .int jo])), (i1, .inl (cy 1, 10, .inl hf))] s.heap := hP
  have hl := lv_entry ([.ref h0, .int k, .int x, .int y]) (n := 4) (Nat.le_of_ble_eq_true rfl)
  rw [lg_entry_eq]
  generalize (lg_sl ([.ref h0, .int k, .int x, .int y]) ++ List.replicate (4 - (lg_sl ([.ref h0, .int k, .int x, .int y])).length) Slot.unset).toArray = ls at hl ⊢
  have hl : lv_has ls 4 [(0, .ref h0), (1, .int k), (2, .int x), (3, .int y)] := hl
  refine lv_iload_n hx hb dX5_plant_0 rfl (lv_at hl 1 rfl) ?_
  refine lv_if_eq (tgt := 11) hx hb dX5_plant_1 (by decide) (fun c_1 => ?_) (fun c_1 => ?_)
  · refine lv_iload_n hx hb dX5_plant_11 rfl (lv_at hl 2 rfl) ?_
    refine lv_if_lt (tgt := 21) hx hb dX5_plant_12 (by decide) (fun c_12 => ?_) (fun c_12 => ?_)
    · refine lv_bipush (v := (-2)) hx hb dX5_plant_21 (by decide) ?_
      have hP9 := hP.sub (ws' := [(h0, .inr (6, [.ref s0, .ref v0, .ref i0, .long tt, .long tg])), (s0, .inr (5, [.ref p0, .ref d0, .ref r0, .int (nI ct), .int (nI fp), .int fk, .int (nI sk)])), (p0, .inr (3, [.int (nI pB), .int (nI pS), .int (nI pG), .int (nI pE), .int (nI pC), .int (nI pO)])), (d0, .inr (2, [.ref d1, .int (nI n)])), (d1, .inl (cy 0, 70, .inl f)), (r0, .inr (2, [.ref r1, .int (nI rn)])), (r1, .inl (cy 0, 70, .inl rf)), (v0, .inr (4, [.ref p0, .ref e0, .int tm, .int cbf])), (e0, .inr (2, [.ref e1, .int (nI en)])), (e1, .inl (cy 0, 70, .inl ef)), (i0, .inr (1, [.ref i1, .int (nI w), .int gr, .int bt, .int jo])), (i1, .inl (cy 1, 10, .inl hf))]) [0, 1, 2, 3, 4, 5, 6, 7, 8, 9, 10, 11] rfl
      have hD9 := hD.sub (ws' := [(h0, .inr (6, [.ref s0, .ref v0, .ref i0, .long tt, .long tg])), (s0, .inr (5, [.ref p0, .ref d0, .ref r0, .int (nI ct), .int (nI fp), .int fk, .int (nI sk)])), (p0, .inr (3, [.int (nI pB), .int (nI pS), .int (nI pG), .int (nI pE), .int (nI pC), .int (nI pO)])), (d0, .inr (2, [.ref d1, .int (nI n)])), (d1, .inl (cy 0, 70, .inl f)), (r0, .inr (2, [.ref r1, .int (nI rn)])), (r1, .inl (cy 0, 70, .inl rf)), (v0, .inr (4, [.ref p0, .ref e0, .int tm, .int cbf])), (e0, .inr (2, [.ref e1, .int (nI en)])), (e1, .inl (cy 0, 70, .inl ef)), (i0, .inr (1, [.ref i1, .int (nI w), .int gr, .int bt, .int jo])), (i1, .inl (cy 1, 10, .inl hf))]) [0, 1, 2, 3, 4, 5, 6, 7, 8, 9, 10, 11] (by decide) rfl
      exact W.iret (v := (-2)) hx hb hr (fun t ht hW => ⟨⟨(-2), (fp, sk, fk), rfl, Or.inr (Or.inl ⟨Or.inl c_1, Or.inl c_12, rfl, rfl, rfl, rfl⟩), by rw [ht]; exact hP9, hD9⟩, hS.F ht⟩) hS.2.2 dX5_plant_23
    · refine lv_iload_n hx hb dX5_plant_15 rfl (lv_at hl 2 rfl) ?_
      refine lv_bipush (v := 100) hx hb dX5_plant_16 (by decide) ?_
      refine lv_icmp_le (tgt := 24) hx hb dX5_plant_18 (by decide) (fun c_18 => ?_) (fun c_18 => ?_)
      · obtain ⟨a, ha, rfl⟩ := at_100 c_12 c_18
        refine lv_iload_n hx hb dX5_plant_24 rfl (lv_at hl 1 rfl) ?_
        refine lv_if_ne (tgt := 40) hx hb dX5_plant_25 (by decide) (fun c_25 => ?_) (fun c_25 => ?_)
        · refine lv_aload_n hx hb dX5_plant_40 rfl (lv_at hl 0 rfl) ?_
          refine va_get (D := D) (ci := 6) (v := .ref s0) (C := RX5) (T := TX5) (N := 5) hx hb hts iw_X5_plant_X5 hown hK hP 0 rfl rfl 0 (by decide) (hts _ lk_X5_plant_f18) (fun _ h9 => h9) rfl dX5_plant_41 ?_
          refine lv_iload_n hx hb dX5_plant_44 rfl (lv_at hl 2 rfl) ?_
          have hPc := hP.sub (ws' := [(s0, .inr (5, [.ref p0, .ref d0, .ref r0, .int (nI ct), .int (nI fp), .int fk, .int (nI sk)])), (p0, .inr (3, [.int (nI pB), .int (nI pS), .int (nI pG), .int (nI pE), .int (nI pC), .int (nI pO)])), (d0, .inr (2, [.ref d1, .int (nI n)])), (d1, .inl (cy 0, 70, .inl f)), (r0, .inr (2, [.ref r1, .int (nI rn)])), (r1, .inl (cy 0, 70, .inl rf))]) [1, 2, 3, 4, 5, 6] rfl
          have hDc := hD.sub (ws' := [(s0, .inr (5, [.ref p0, .ref d0, .ref r0, .int (nI ct), .int (nI fp), .int fk, .int (nI sk)])), (p0, .inr (3, [.int (nI pB), .int (nI pS), .int (nI pG), .int (nI pE), .int (nI pC), .int (nI pO)])), (d0, .inr (2, [.ref d1, .int (nI n)])), (d1, .inl (cy 0, 70, .inl f)), (r0, .inr (2, [.ref r1, .int (nI rn)])), (r1, .inl (cy 0, 70, .inl rf))]) [1, 2, 3, 4, 5, 6] (by decide) rfl
          have hFc := va_free (wc := [(s0, .inr (5, [.ref p0, .ref d0, .ref r0, .int (nI ct), .int (nI fp), .int fk, .int (nI sk)])), (p0, .inr (3, [.int (nI pB), .int (nI pS), .int (nI pG), .int (nI pE), .int (nI pC), .int (nI pO)])), (d0, .inr (2, [.ref d1, .int (nI n)])), (d1, .inl (cy 0, 70, .inl f)), (r0, .inr (2, [.ref r1, .int (nI rn)])), (r1, .inl (cy 0, 70, .inl rf))]) hD hS hA [1, 2, 3, 4, 5, 6] rfl
          refine va_callv (va_runV (As := [.int (nI a)]) (rest := []) ⟨hx, hb, hml, hown, hts⟩ (c_X4_plantSkip l D cy s.heap.size s0 p0 d0 d1 r0 r1 (nI ct) (nI fp) fk (nI sk) pB pS pG pE pC pO f n rf rn (nI a) ) (cwV 1 hts gX5_plant_X4_plantSkip rfl rfl rfl (by decide +kernel) ⟨Nat.le_of_ble_eq_true rfl, Nat.le_of_ble_eq_true rfl⟩) (pv_V (ci := 5) (q := (RX4, TX4, 7)) hkk hPc hDc rfl rfl rfl) rfl rfl hl.1 rfl (lv_room (Nat.le_of_ble_eq_true rfl)) dX5_plant_45 ⟨Nat.le_of_ble_eq_true rfl, Nat.le_of_ble_eq_true rfl⟩) hS (fun q _ h => hFc q h) hFc (fun u t H1 locs ht hvm hw hB hz1 hk1 hS => ?_)
          obtain ⟨hP1, hD1⟩ := hB
          rw [ht] at hP1
          try dsimp only at hw hP1 hD1
          obtain ⟨hP, hD⟩ := va_join (wr := [(h0, .inr (6, [.ref s0, .ref v0, .ref i0, .long tt, .long tg])), (v0, .inr (4, [.ref p0, .ref e0, .int tm, .int cbf])), (e0, .inr (2, [.ref e1, .int (nI en)])), (e1, .inl (cy 0, 70, .inl ef)), (i0, .inr (1, [.ref i1, .int (nI w), .int gr, .int bt, .int jo])), (i1, .inl (cy 1, 10, .inl hf))]) (w1 := [(s0, .inr (5, [.ref p0, .ref d0, .ref r0, .int (nI ct), .int (nI fp), .int fk, .int (nI a)])), (p0, .inr (3, [.int (nI pB), .int (nI pS), .int (nI pG), .int (nI pE), .int (nI pC), .int (nI pO)])), (d0, .inr (2, [.ref d1, .int (nI n)])), (d1, .inl (cy 0, 70, .inl f)), (r0, .inr (2, [.ref r1, .int (nI rn)])), (r1, .inl (cy 0, 70, .inl rf))]) hP hD [1, 2, 3, 4, 5, 6] [0, 7, 8, 9, 10, 11] rfl rfl (by decide) (by decide) hk1 hFc hP1 hD1
          clear hPc hDc hFc hP1 hD1 hz1 hk1
          generalize H1 = H at hP hS ⊢
          have hP : va_P D vwCl [(h0, .inr (6, [.ref s0, .ref v0, .ref i0, .long tt, .long tg])), (v0, .inr (4, [.ref p0, .ref e0, .int tm, .int cbf])), (e0, .inr (2, [.ref e1, .int (nI en)])), (e1, .inl (cy 0, 70, .inl ef)), (i0, .inr (1, [.ref i1, .int (nI w), .int gr, .int bt, .int jo])), (i1, .inl (cy 1, 10, .inl hf)), (s0, .inr (5, [.ref p0, .ref d0, .ref r0, .int (nI ct), .int (nI fp), .int fk, .int (nI a)])), (p0, .inr (3, [.int (nI pB), .int (nI pS), .int (nI pG), .int (nI pE), .int (nI pC), .int (nI pO)])), (d0, .inr (2, [.ref d1, .int (nI n)])), (d1, .inl (cy 0, 70, .inl f)), (r0, .inr (2, [.ref r1, .int (nI rn)])), (r1, .inl (cy 0, 70, .inl rf))] H := hP
          have hD : va_D A [(h0, .inr (6, [.ref s0, .ref v0, .ref i0, .long tt, .long tg])), (v0, .inr (4, [.ref p0, .ref e0, .int tm, .int cbf])), (e0, .inr (2, [.ref e1, .int (nI en)])), (e1, .inl (cy 0, 70, .inl ef)), (i0, .inr (1, [.ref i1, .int (nI w), .int gr, .int bt, .int jo])), (i1, .inl (cy 1, 10, .inl hf)), (s0, .inr (5, [.ref p0, .ref d0, .ref r0, .int (nI ct), .int (nI fp), .int fk, .int (nI a)])), (p0, .inr (3, [.int (nI pB), .int (nI pS), .int (nI pG), .int (nI pE), .int (nI pC), .int (nI pO)])), (d0, .inr (2, [.ref d1, .int (nI n)])), (d1, .inl (cy 0, 70, .inl f)), (r0, .inr (2, [.ref r1, .int (nI rn)])), (r1, .inl (cy 0, 70, .inl rf))] := hD
          have hw_45 := hw
          refine lv_iconst (v := 1) hx hb dX5_plant_48 (by decide) ?_
          have hP9 := hP.sub (ws' := [(h0, .inr (6, [.ref s0, .ref v0, .ref i0, .long tt, .long tg])), (s0, .inr (5, [.ref p0, .ref d0, .ref r0, .int (nI ct), .int (nI fp), .int fk, .int (nI a)])), (p0, .inr (3, [.int (nI pB), .int (nI pS), .int (nI pG), .int (nI pE), .int (nI pC), .int (nI pO)])), (d0, .inr (2, [.ref d1, .int (nI n)])), (d1, .inl (cy 0, 70, .inl f)), (r0, .inr (2, [.ref r1, .int (nI rn)])), (r1, .inl (cy 0, 70, .inl rf)), (v0, .inr (4, [.ref p0, .ref e0, .int tm, .int cbf])), (e0, .inr (2, [.ref e1, .int (nI en)])), (e1, .inl (cy 0, 70, .inl ef)), (i0, .inr (1, [.ref i1, .int (nI w), .int gr, .int bt, .int jo])), (i1, .inl (cy 1, 10, .inl hf))]) [0, 6, 7, 8, 9, 10, 11, 1, 2, 3, 4, 5] rfl
          have hD9 := hD.sub (ws' := [(h0, .inr (6, [.ref s0, .ref v0, .ref i0, .long tt, .long tg])), (s0, .inr (5, [.ref p0, .ref d0, .ref r0, .int (nI ct), .int (nI fp), .int fk, .int (nI a)])), (p0, .inr (3, [.int (nI pB), .int (nI pS), .int (nI pG), .int (nI pE), .int (nI pC), .int (nI pO)])), (d0, .inr (2, [.ref d1, .int (nI n)])), (d1, .inl (cy 0, 70, .inl f)), (r0, .inr (2, [.ref r1, .int (nI rn)])), (r1, .inl (cy 0, 70, .inl rf)), (v0, .inr (4, [.ref p0, .ref e0, .int tm, .int cbf])), (e0, .inr (2, [.ref e1, .int (nI en)])), (e1, .inl (cy 0, 70, .inl ef)), (i0, .inr (1, [.ref i1, .int (nI w), .int gr, .int bt, .int jo])), (i1, .inl (cy 1, 10, .inl hf))]) [0, 6, 7, 8, 9, 10, 11, 1, 2, 3, 4, 5] (by decide) rfl
          exact W.iret (v := 1) hx hb hr (fun t ht hW => ⟨⟨1, (fp, a, fk), rfl, Or.inr (Or.inr (Or.inr ⟨a, ha, rfl, absurd c_1 c_25, rfl, rfl, rfl, rfl⟩)), by rw [ht]; exact hP9, hD9⟩, hS.F ht⟩) hS.2.2 dX5_plant_49
        · refine lv_aload_n hx hb dX5_plant_28 rfl (lv_at hl 0 rfl) ?_
          refine va_get (D := D) (ci := 6) (v := .ref s0) (C := RX5) (T := TX5) (N := 5) hx hb hts iw_X5_plant_X5 hown hK hP 0 rfl rfl 0 (by decide) (hts _ lk_X5_plant_f18) (fun _ h9 => h9) rfl dX5_plant_29 ?_
          refine lv_iload_n hx hb dX5_plant_32 rfl (lv_at hl 2 rfl) ?_
          refine lv_iload_n hx hb dX5_plant_33 rfl (lv_at hl 3 rfl) ?_
          have hPc := hP.sub (ws' := [(s0, .inr (5, [.ref p0, .ref d0, .ref r0, .int (nI ct), .int (nI fp), .int fk, .int (nI sk)])), (p0, .inr (3, [.int (nI pB), .int (nI pS), .int (nI pG), .int (nI pE), .int (nI pC), .int (nI pO)])), (d0, .inr (2, [.ref d1, .int (nI n)])), (d1, .inl (cy 0, 70, .inl f)), (r0, .inr (2, [.ref r1, .int (nI rn)])), (r1, .inl (cy 0, 70, .inl rf))]) [1, 2, 3, 4, 5, 6] rfl
          have hDc := hD.sub (ws' := [(s0, .inr (5, [.ref p0, .ref d0, .ref r0, .int (nI ct), .int (nI fp), .int fk, .int (nI sk)])), (p0, .inr (3, [.int (nI pB), .int (nI pS), .int (nI pG), .int (nI pE), .int (nI pC), .int (nI pO)])), (d0, .inr (2, [.ref d1, .int (nI n)])), (d1, .inl (cy 0, 70, .inl f)), (r0, .inr (2, [.ref r1, .int (nI rn)])), (r1, .inl (cy 0, 70, .inl rf))]) [1, 2, 3, 4, 5, 6] (by decide) rfl
          have hFc := va_free (wc := [(s0, .inr (5, [.ref p0, .ref d0, .ref r0, .int (nI ct), .int (nI fp), .int fk, .int (nI sk)])), (p0, .inr (3, [.int (nI pB), .int (nI pS), .int (nI pG), .int (nI pE), .int (nI pC), .int (nI pO)])), (d0, .inr (2, [.ref d1, .int (nI n)])), (d1, .inl (cy 0, 70, .inl f)), (r0, .inr (2, [.ref r1, .int (nI rn)])), (r1, .inl (cy 0, 70, .inl rf))]) hD hS hA [1, 2, 3, 4, 5, 6] rfl
          refine va_callv (va_runV (As := [.int (nI a), .int y]) (rest := []) ⟨hx, hb, hml, hown, hts⟩ (c_X4_plantFlip l D cy s.heap.size s0 p0 d0 d1 r0 r1 (nI ct) (nI fp) fk (nI sk) pB pS pG pE pC pO f n rf rn (nI a) y ) (cwV 2 hts gX5_plant_X4_plantFlip rfl rfl rfl (by decide +kernel) ⟨Nat.le_of_ble_eq_true rfl, Nat.le_of_ble_eq_true rfl⟩) (pv_V (ci := 5) (q := (RX4, TX4, 7)) hkk hPc hDc rfl rfl rfl) rfl rfl hl.1 rfl (lv_room (Nat.le_of_ble_eq_true rfl)) dX5_plant_34 ⟨Nat.le_of_ble_eq_true rfl, Nat.le_of_ble_eq_true rfl⟩) hS (fun q _ h => hFc q h) hFc (fun u t H1 locs ht hvm hw hB hz1 hk1 hS => ?_)
          obtain ⟨hP1, hD1⟩ := hB
          rw [ht] at hP1
          try dsimp only at hw hP1 hD1
          obtain ⟨hP, hD⟩ := va_join (wr := [(h0, .inr (6, [.ref s0, .ref v0, .ref i0, .long tt, .long tg])), (v0, .inr (4, [.ref p0, .ref e0, .int tm, .int cbf])), (e0, .inr (2, [.ref e1, .int (nI en)])), (e1, .inl (cy 0, 70, .inl ef)), (i0, .inr (1, [.ref i1, .int (nI w), .int gr, .int bt, .int jo])), (i1, .inl (cy 1, 10, .inl hf))]) (w1 := [(s0, .inr (5, [.ref p0, .ref d0, .ref r0, .int (nI ct), .int (nI a), .int y, .int (nI sk)])), (p0, .inr (3, [.int (nI pB), .int (nI pS), .int (nI pG), .int (nI pE), .int (nI pC), .int (nI pO)])), (d0, .inr (2, [.ref d1, .int (nI n)])), (d1, .inl (cy 0, 70, .inl f)), (r0, .inr (2, [.ref r1, .int (nI rn)])), (r1, .inl (cy 0, 70, .inl rf))]) hP hD [1, 2, 3, 4, 5, 6] [0, 7, 8, 9, 10, 11] rfl rfl (by decide) (by decide) hk1 hFc hP1 hD1
          clear hPc hDc hFc hP1 hD1 hz1 hk1
          generalize H1 = H at hP hS ⊢
          have hP : va_P D vwCl [(h0, .inr (6, [.ref s0, .ref v0, .ref i0, .long tt, .long tg])), (v0, .inr (4, [.ref p0, .ref e0, .int tm, .int cbf])), (e0, .inr (2, [.ref e1, .int (nI en)])), (e1, .inl (cy 0, 70, .inl ef)), (i0, .inr (1, [.ref i1, .int (nI w), .int gr, .int bt, .int jo])), (i1, .inl (cy 1, 10, .inl hf)), (s0, .inr (5, [.ref p0, .ref d0, .ref r0, .int (nI ct), .int (nI a), .int y, .int (nI sk)])), (p0, .inr (3, [.int (nI pB), .int (nI pS), .int (nI pG), .int (nI pE), .int (nI pC), .int (nI pO)])), (d0, .inr (2, [.ref d1, .int (nI n)])), (d1, .inl (cy 0, 70, .inl f)), (r0, .inr (2, [.ref r1, .int (nI rn)])), (r1, .inl (cy 0, 70, .inl rf))] H := hP
          have hD : va_D A [(h0, .inr (6, [.ref s0, .ref v0, .ref i0, .long tt, .long tg])), (v0, .inr (4, [.ref p0, .ref e0, .int tm, .int cbf])), (e0, .inr (2, [.ref e1, .int (nI en)])), (e1, .inl (cy 0, 70, .inl ef)), (i0, .inr (1, [.ref i1, .int (nI w), .int gr, .int bt, .int jo])), (i1, .inl (cy 1, 10, .inl hf)), (s0, .inr (5, [.ref p0, .ref d0, .ref r0, .int (nI ct), .int (nI a), .int y, .int (nI sk)])), (p0, .inr (3, [.int (nI pB), .int (nI pS), .int (nI pG), .int (nI pE), .int (nI pC), .int (nI pO)])), (d0, .inr (2, [.ref d1, .int (nI n)])), (d1, .inl (cy 0, 70, .inl f)), (r0, .inr (2, [.ref r1, .int (nI rn)])), (r1, .inl (cy 0, 70, .inl rf))] := hD
          have hw_34 := hw
          refine lv_goto (tgt := 48) hx hb dX5_plant_37 (by decide) ?_
          refine lv_iconst (v := 1) hx hb dX5_plant_48 (by decide) ?_
          have hP9 := hP.sub (ws' := [(h0, .inr (6, [.ref s0, .ref v0, .ref i0, .long tt, .long tg])), (s0, .inr (5, [.ref p0, .ref d0, .ref r0, .int (nI ct), .int (nI a), .int y, .int (nI sk)])), (p0, .inr (3, [.int (nI pB), .int (nI pS), .int (nI pG), .int (nI pE), .int (nI pC), .int (nI pO)])), (d0, .inr (2, [.ref d1, .int (nI n)])), (d1, .inl (cy 0, 70, .inl f)), (r0, .inr (2, [.ref r1, .int (nI rn)])), (r1, .inl (cy 0, 70, .inl rf)), (v0, .inr (4, [.ref p0, .ref e0, .int tm, .int cbf])), (e0, .inr (2, [.ref e1, .int (nI en)])), (e1, .inl (cy 0, 70, .inl ef)), (i0, .inr (1, [.ref i1, .int (nI w), .int gr, .int bt, .int jo])), (i1, .inl (cy 1, 10, .inl hf))]) [0, 6, 7, 8, 9, 10, 11, 1, 2, 3, 4, 5] rfl
          have hD9 := hD.sub (ws' := [(h0, .inr (6, [.ref s0, .ref v0, .ref i0, .long tt, .long tg])), (s0, .inr (5, [.ref p0, .ref d0, .ref r0, .int (nI ct), .int (nI a), .int y, .int (nI sk)])), (p0, .inr (3, [.int (nI pB), .int (nI pS), .int (nI pG), .int (nI pE), .int (nI pC), .int (nI pO)])), (d0, .inr (2, [.ref d1, .int (nI n)])), (d1, .inl (cy 0, 70, .inl f)), (r0, .inr (2, [.ref r1, .int (nI rn)])), (r1, .inl (cy 0, 70, .inl rf)), (v0, .inr (4, [.ref p0, .ref e0, .int tm, .int cbf])), (e0, .inr (2, [.ref e1, .int (nI en)])), (e1, .inl (cy 0, 70, .inl ef)), (i0, .inr (1, [.ref i1, .int (nI w), .int gr, .int bt, .int jo])), (i1, .inl (cy 1, 10, .inl hf))]) [0, 6, 7, 8, 9, 10, 11, 1, 2, 3, 4, 5] (by decide) rfl
          exact W.iret (v := 1) hx hb hr (fun t ht hW => ⟨⟨1, (a, sk, y), rfl, Or.inr (Or.inr (Or.inl ⟨a, ha, rfl, c_25, rfl, rfl, rfl, rfl⟩)), by rw [ht]; exact hP9, hD9⟩, hS.F ht⟩) hS.2.2 dX5_plant_49
      · refine lv_bipush (v := (-2)) hx hb dX5_plant_21 (by decide) ?_
        have hP9 := hP.sub (ws' := [(h0, .inr (6, [.ref s0, .ref v0, .ref i0, .long tt, .long tg])), (s0, .inr (5, [.ref p0, .ref d0, .ref r0, .int (nI ct), .int (nI fp), .int fk, .int (nI sk)])), (p0, .inr (3, [.int (nI pB), .int (nI pS), .int (nI pG), .int (nI pE), .int (nI pC), .int (nI pO)])), (d0, .inr (2, [.ref d1, .int (nI n)])), (d1, .inl (cy 0, 70, .inl f)), (r0, .inr (2, [.ref r1, .int (nI rn)])), (r1, .inl (cy 0, 70, .inl rf)), (v0, .inr (4, [.ref p0, .ref e0, .int tm, .int cbf])), (e0, .inr (2, [.ref e1, .int (nI en)])), (e1, .inl (cy 0, 70, .inl ef)), (i0, .inr (1, [.ref i1, .int (nI w), .int gr, .int bt, .int jo])), (i1, .inl (cy 1, 10, .inl hf))]) [0, 1, 2, 3, 4, 5, 6, 7, 8, 9, 10, 11] rfl
        have hD9 := hD.sub (ws' := [(h0, .inr (6, [.ref s0, .ref v0, .ref i0, .long tt, .long tg])), (s0, .inr (5, [.ref p0, .ref d0, .ref r0, .int (nI ct), .int (nI fp), .int fk, .int (nI sk)])), (p0, .inr (3, [.int (nI pB), .int (nI pS), .int (nI pG), .int (nI pE), .int (nI pC), .int (nI pO)])), (d0, .inr (2, [.ref d1, .int (nI n)])), (d1, .inl (cy 0, 70, .inl f)), (r0, .inr (2, [.ref r1, .int (nI rn)])), (r1, .inl (cy 0, 70, .inl rf)), (v0, .inr (4, [.ref p0, .ref e0, .int tm, .int cbf])), (e0, .inr (2, [.ref e1, .int (nI en)])), (e1, .inl (cy 0, 70, .inl ef)), (i0, .inr (1, [.ref i1, .int (nI w), .int gr, .int bt, .int jo])), (i1, .inl (cy 1, 10, .inl hf))]) [0, 1, 2, 3, 4, 5, 6, 7, 8, 9, 10, 11] (by decide) rfl
        exact W.iret (v := (-2)) hx hb hr (fun t ht hW => ⟨⟨(-2), (fp, sk, fk), rfl, Or.inr (Or.inl ⟨Or.inl c_1, Or.inr c_18, rfl, rfl, rfl, rfl⟩), by rw [ht]; exact hP9, hD9⟩, hS.F ht⟩) hS.2.2 dX5_plant_23
  · refine lv_iload_n hx hb dX5_plant_4 rfl (lv_at hl 1 rfl) ?_
    refine lv_iconst (v := 1) hx hb dX5_plant_5 (by decide) ?_
    refine lv_icmp_eq (tgt := 11) hx hb dX5_plant_6 (by decide) (fun c_6 => ?_) (fun c_6 => ?_)
    · refine lv_iload_n hx hb dX5_plant_11 rfl (lv_at hl 2 rfl) ?_
      refine lv_if_lt (tgt := 21) hx hb dX5_plant_12 (by decide) (fun c_12 => ?_) (fun c_12 => ?_)
      · refine lv_bipush (v := (-2)) hx hb dX5_plant_21 (by decide) ?_
        have hP9 := hP.sub (ws' := [(h0, .inr (6, [.ref s0, .ref v0, .ref i0, .long tt, .long tg])), (s0, .inr (5, [.ref p0, .ref d0, .ref r0, .int (nI ct), .int (nI fp), .int fk, .int (nI sk)])), (p0, .inr (3, [.int (nI pB), .int (nI pS), .int (nI pG), .int (nI pE), .int (nI pC), .int (nI pO)])), (d0, .inr (2, [.ref d1, .int (nI n)])), (d1, .inl (cy 0, 70, .inl f)), (r0, .inr (2, [.ref r1, .int (nI rn)])), (r1, .inl (cy 0, 70, .inl rf)), (v0, .inr (4, [.ref p0, .ref e0, .int tm, .int cbf])), (e0, .inr (2, [.ref e1, .int (nI en)])), (e1, .inl (cy 0, 70, .inl ef)), (i0, .inr (1, [.ref i1, .int (nI w), .int gr, .int bt, .int jo])), (i1, .inl (cy 1, 10, .inl hf))]) [0, 1, 2, 3, 4, 5, 6, 7, 8, 9, 10, 11] rfl
        have hD9 := hD.sub (ws' := [(h0, .inr (6, [.ref s0, .ref v0, .ref i0, .long tt, .long tg])), (s0, .inr (5, [.ref p0, .ref d0, .ref r0, .int (nI ct), .int (nI fp), .int fk, .int (nI sk)])), (p0, .inr (3, [.int (nI pB), .int (nI pS), .int (nI pG), .int (nI pE), .int (nI pC), .int (nI pO)])), (d0, .inr (2, [.ref d1, .int (nI n)])), (d1, .inl (cy 0, 70, .inl f)), (r0, .inr (2, [.ref r1, .int (nI rn)])), (r1, .inl (cy 0, 70, .inl rf)), (v0, .inr (4, [.ref p0, .ref e0, .int tm, .int cbf])), (e0, .inr (2, [.ref e1, .int (nI en)])), (e1, .inl (cy 0, 70, .inl ef)), (i0, .inr (1, [.ref i1, .int (nI w), .int gr, .int bt, .int jo])), (i1, .inl (cy 1, 10, .inl hf))]) [0, 1, 2, 3, 4, 5, 6, 7, 8, 9, 10, 11] (by decide) rfl
        exact W.iret (v := (-2)) hx hb hr (fun t ht hW => ⟨⟨(-2), (fp, sk, fk), rfl, Or.inr (Or.inl ⟨Or.inr c_6, Or.inl c_12, rfl, rfl, rfl, rfl⟩), by rw [ht]; exact hP9, hD9⟩, hS.F ht⟩) hS.2.2 dX5_plant_23
      · refine lv_iload_n hx hb dX5_plant_15 rfl (lv_at hl 2 rfl) ?_
        refine lv_bipush (v := 100) hx hb dX5_plant_16 (by decide) ?_
        refine lv_icmp_le (tgt := 24) hx hb dX5_plant_18 (by decide) (fun c_18 => ?_) (fun c_18 => ?_)
        · obtain ⟨a, ha, rfl⟩ := at_100 c_12 c_18
          refine lv_iload_n hx hb dX5_plant_24 rfl (lv_at hl 1 rfl) ?_
          refine lv_if_ne (tgt := 40) hx hb dX5_plant_25 (by decide) (fun c_25 => ?_) (fun c_25 => ?_)
          · refine lv_aload_n hx hb dX5_plant_40 rfl (lv_at hl 0 rfl) ?_
            refine va_get (D := D) (ci := 6) (v := .ref s0) (C := RX5) (T := TX5) (N := 5) hx hb hts iw_X5_plant_X5 hown hK hP 0 rfl rfl 0 (by decide) (hts _ lk_X5_plant_f18) (fun _ h9 => h9) rfl dX5_plant_41 ?_
            refine lv_iload_n hx hb dX5_plant_44 rfl (lv_at hl 2 rfl) ?_
            have hPc := hP.sub (ws' := [(s0, .inr (5, [.ref p0, .ref d0, .ref r0, .int (nI ct), .int (nI fp), .int fk, .int (nI sk)])), (p0, .inr (3, [.int (nI pB), .int (nI pS), .int (nI pG), .int (nI pE), .int (nI pC), .int (nI pO)])), (d0, .inr (2, [.ref d1, .int (nI n)])), (d1, .inl (cy 0, 70, .inl f)), (r0, .inr (2, [.ref r1, .int (nI rn)])), (r1, .inl (cy 0, 70, .inl rf))]) [1, 2, 3, 4, 5, 6] rfl
            have hDc := hD.sub (ws' := [(s0, .inr (5, [.ref p0, .ref d0, .ref r0, .int (nI ct), .int (nI fp), .int fk, .int (nI sk)])), (p0, .inr (3, [.int (nI pB), .int (nI pS), .int (nI pG), .int (nI pE), .int (nI pC), .int (nI pO)])), (d0, .inr (2, [.ref d1, .int (nI n)])), (d1, .inl (cy 0, 70, .inl f)), (r0, .inr (2, [.ref r1, .int (nI rn)])), (r1, .inl (cy 0, 70, .inl rf))]) [1, 2, 3, 4, 5, 6] (by decide) rfl
            have hFc := va_free (wc := [(s0, .inr (5, [.ref p0, .ref d0, .ref r0, .int (nI ct), .int (nI fp), .int fk, .int (nI sk)])), (p0, .inr (3, [.int (nI pB), .int (nI pS), .int (nI pG), .int (nI pE), .int (nI pC), .int (nI pO)])), (d0, .inr (2, [.ref d1, .int (nI n)])), (d1, .inl (cy 0, 70, .inl f)), (r0, .inr (2, [.ref r1, .int (nI rn)])), (r1, .inl (cy 0, 70, .inl rf))]) hD hS hA [1, 2, 3, 4, 5, 6] rfl
            refine va_callv (va_runV (As := [.int (nI a)]) (rest := []) ⟨hx, hb, hml, hown, hts⟩ (c_X4_plantSkip l D cy s.heap.size s0 p0 d0 d1 r0 r1 (nI ct) (nI fp) fk (nI sk) pB pS pG pE pC pO f n rf rn (nI a) ) (cwV 1 hts gX5_plant_X4_plantSkip rfl rfl rfl (by decide +kernel) ⟨Nat.le_of_ble_eq_true rfl, Nat.le_of_ble_eq_true rfl⟩) (pv_V (ci := 5) (q := (RX4, TX4, 7)) hkk hPc hDc rfl rfl rfl) rfl rfl hl.1 rfl (lv_room (Nat.le_of_ble_eq_true rfl)) dX5_plant_45 ⟨Nat.le_of_ble_eq_true rfl, Nat.le_of_ble_eq_true rfl⟩) hS (fun q _ h => hFc q h) hFc (fun u t H1 locs ht hvm hw hB hz1 hk1 hS => ?_)
            obtain ⟨hP1, hD1⟩ := hB
            rw [ht] at hP1
            try dsimp only at hw hP1 hD1
            obtain ⟨hP, hD⟩ := va_join (wr := [(h0, .inr (6, [.ref s0, .ref v0, .ref i0, .long tt, .long tg])), (v0, .inr (4, [.ref p0, .ref e0, .int tm, .int cbf])), (e0, .inr (2, [.ref e1, .int (nI en)])), (e1, .inl (cy 0, 70, .inl ef)), (i0, .inr (1, [.ref i1, .int (nI w), .int gr, .int bt, .int jo])), (i1, .inl (cy 1, 10, .inl hf))]) (w1 := [(s0, .inr (5, [.ref p0, .ref d0, .ref r0, .int (nI ct), .int (nI fp), .int fk, .int (nI a)])), (p0, .inr (3, [.int (nI pB), .int (nI pS), .int (nI pG), .int (nI pE), .int (nI pC), .int (nI pO)])), (d0, .inr (2, [.ref d1, .int (nI n)])), (d1, .inl (cy 0, 70, .inl f)), (r0, .inr (2, [.ref r1, .int (nI rn)])), (r1, .inl (cy 0, 70, .inl rf))]) hP hD [1, 2, 3, 4, 5, 6] [0, 7, 8, 9, 10, 11] rfl rfl (by decide) (by decide) hk1 hFc hP1 hD1
            clear hPc hDc hFc hP1 hD1 hz1 hk1
            generalize H1 = H at hP hS ⊢
            have hP : va_P D vwCl [(h0, .inr (6, [.ref s0, .ref v0, .ref i0, .long tt, .long tg])), (v0, .inr (4, [.ref p0, .ref e0, .int tm, .int cbf])), (e0, .inr (2, [.ref e1, .int (nI en)])), (e1, .inl (cy 0, 70, .inl ef)), (i0, .inr (1, [.ref i1, .int (nI w), .int gr, .int bt, .int jo])), (i1, .inl (cy 1, 10, .inl hf)), (s0, .inr (5, [.ref p0, .ref d0, .ref r0, .int (nI ct), .int (nI fp), .int fk, .int (nI a)])), (p0, .inr (3, [.int (nI pB), .int (nI pS), .int (nI pG), .int (nI pE), .int (nI pC), .int (nI pO)])), (d0, .inr (2, [.ref d1, .int (nI n)])), (d1, .inl (cy 0, 70, .inl f)), (r0, .inr (2, [.ref r1, .int (nI rn)])), (r1, .inl (cy 0, 70, .inl rf))] H := hP
            have hD : va_D A [(h0, .inr (6, [.ref s0, .ref v0, .ref i0, .long tt, .long tg])), (v0, .inr (4, [.ref p0, .ref e0, .int tm, .int cbf])), (e0, .inr (2, [.ref e1, .int (nI en)])), (e1, .inl (cy 0, 70, .inl ef)), (i0, .inr (1, [.ref i1, .int (nI w), .int gr, .int bt, .int jo])), (i1, .inl (cy 1, 10, .inl hf)), (s0, .inr (5, [.ref p0, .ref d0, .ref r0, .int (nI ct), .int (nI fp), .int fk, .int (nI a)])), (p0, .inr (3, [.int (nI pB), .int (nI pS), .int (nI pG), .int (nI pE), .int (nI pC), .int (nI pO)])), (d0, .inr (2, [.ref d1, .int (nI n)])), (d1, .inl (cy 0, 70, .inl f)), (r0, .inr (2, [.ref r1, .int (nI rn)])), (r1, .inl (cy 0, 70, .inl rf))] := hD
            have hw_45 := hw
            refine lv_iconst (v := 1) hx hb dX5_plant_48 (by decide) ?_
            have hP9 := hP.sub (ws' := [(h0, .inr (6, [.ref s0, .ref v0, .ref i0, .long tt, .long tg])), (s0, .inr (5, [.ref p0, .ref d0, .ref r0, .int (nI ct), .int (nI fp), .int fk, .int (nI a)])), (p0, .inr (3, [.int (nI pB), .int (nI pS), .int (nI pG), .int (nI pE), .int (nI pC), .int (nI pO)])), (d0, .inr (2, [.ref d1, .int (nI n)])), (d1, .inl (cy 0, 70, .inl f)), (r0, .inr (2, [.ref r1, .int (nI rn)])), (r1, .inl (cy 0, 70, .inl rf)), (v0, .inr (4, [.ref p0, .ref e0, .int tm, .int cbf])), (e0, .inr (2, [.ref e1, .int (nI en)])), (e1, .inl (cy 0, 70, .inl ef)), (i0, .inr (1, [.ref i1, .int (nI w), .int gr, .int bt, .int jo])), (i1, .inl (cy 1, 10, .inl hf))]) [0, 6, 7, 8, 9, 10, 11, 1, 2, 3, 4, 5] rfl
            have hD9 := hD.sub (ws' := [(h0, .inr (6, [.ref s0, .ref v0, .ref i0, .long tt, .long tg])), (s0, .inr (5, [.ref p0, .ref d0, .ref r0, .int (nI ct), .int (nI fp), .int fk, .int (nI a)])), (p0, .inr (3, [.int (nI pB), .int (nI pS), .int (nI pG), .int (nI pE), .int (nI pC), .int (nI pO)])), (d0, .inr (2, [.ref d1, .int (nI n)])), (d1, .inl (cy 0, 70, .inl f)), (r0, .inr (2, [.ref r1, .int (nI rn)])), (r1, .inl (cy 0, 70, .inl rf)), (v0, .inr (4, [.ref p0, .ref e0, .int tm, .int cbf])), (e0, .inr (2, [.ref e1, .int (nI en)])), (e1, .inl (cy 0, 70, .inl ef)), (i0, .inr (1, [.ref i1, .int (nI w), .int gr, .int bt, .int jo])), (i1, .inl (cy 1, 10, .inl hf))]) [0, 6, 7, 8, 9, 10, 11, 1, 2, 3, 4, 5] (by decide) rfl
            exact W.iret (v := 1) hx hb hr (fun t ht hW => ⟨⟨1, (fp, a, fk), rfl, Or.inr (Or.inr (Or.inr ⟨a, ha, rfl, c_6, rfl, rfl, rfl, rfl⟩)), by rw [ht]; exact hP9, hD9⟩, hS.F ht⟩) hS.2.2 dX5_plant_49
          · refine lv_aload_n hx hb dX5_plant_28 rfl (lv_at hl 0 rfl) ?_
            refine va_get (D := D) (ci := 6) (v := .ref s0) (C := RX5) (T := TX5) (N := 5) hx hb hts iw_X5_plant_X5 hown hK hP 0 rfl rfl 0 (by decide) (hts _ lk_X5_plant_f18) (fun _ h9 => h9) rfl dX5_plant_29 ?_
            refine lv_iload_n hx hb dX5_plant_32 rfl (lv_at hl 2 rfl) ?_
            refine lv_iload_n hx hb dX5_plant_33 rfl (lv_at hl 3 rfl) ?_
            have hPc := hP.sub (ws' := [(s0, .inr (5, [.ref p0, .ref d0, .ref r0, .int (nI ct), .int (nI fp), .int fk, .int (nI sk)])), (p0, .inr (3, [.int (nI pB), .int (nI pS), .int (nI pG), .int (nI pE), .int (nI pC), .int (nI pO)])), (d0, .inr (2, [.ref d1, .int (nI n)])), (d1, .inl (cy 0, 70, .inl f)), (r0, .inr (2, [.ref r1, .int (nI rn)])), (r1, .inl (cy 0, 70, .inl rf))]) [1, 2, 3, 4, 5, 6] rfl
            have hDc := hD.sub (ws' := [(s0, .inr (5, [.ref p0, .ref d0, .ref r0, .int (nI ct), .int (nI fp), .int fk, .int (nI sk)])), (p0, .inr (3, [.int (nI pB), .int (nI pS), .int (nI pG), .int (nI pE), .int (nI pC), .int (nI pO)])), (d0, .inr (2, [.ref d1, .int (nI n)])), (d1, .inl (cy 0, 70, .inl f)), (r0, .inr (2, [.ref r1, .int (nI rn)])), (r1, .inl (cy 0, 70, .inl rf))]) [1, 2, 3, 4, 5, 6] (by decide) rfl
            have hFc := va_free (wc := [(s0, .inr (5, [.ref p0, .ref d0, .ref r0, .int (nI ct), .int (nI fp), .int fk, .int (nI sk)])), (p0, .inr (3, [.int (nI pB), .int (nI pS), .int (nI pG), .int (nI pE), .int (nI pC), .int (nI pO)])), (d0, .inr (2, [.ref d1, .int (nI n)])), (d1, .inl (cy 0, 70, .inl f)), (r0, .inr (2, [.ref r1, .int (nI rn)])), (r1, .inl (cy 0, 70, .inl rf))]) hD hS hA [1, 2, 3, 4, 5, 6] rfl
            refine va_callv (va_runV (As := [.int (nI a), .int y]) (rest := []) ⟨hx, hb, hml, hown, hts⟩ (c_X4_plantFlip l D cy s.heap.size s0 p0 d0 d1 r0 r1 (nI ct) (nI fp) fk (nI sk) pB pS pG pE pC pO f n rf rn (nI a) y ) (cwV 2 hts gX5_plant_X4_plantFlip rfl rfl rfl (by decide +kernel) ⟨Nat.le_of_ble_eq_true rfl, Nat.le_of_ble_eq_true rfl⟩) (pv_V (ci := 5) (q := (RX4, TX4, 7)) hkk hPc hDc rfl rfl rfl) rfl rfl hl.1 rfl (lv_room (Nat.le_of_ble_eq_true rfl)) dX5_plant_34 ⟨Nat.le_of_ble_eq_true rfl, Nat.le_of_ble_eq_true rfl⟩) hS (fun q _ h => hFc q h) hFc (fun u t H1 locs ht hvm hw hB hz1 hk1 hS => ?_)
            obtain ⟨hP1, hD1⟩ := hB
            rw [ht] at hP1
            try dsimp only at hw hP1 hD1
            obtain ⟨hP, hD⟩ := va_join (wr := [(h0, .inr (6, [.ref s0, .ref v0, .ref i0, .long tt, .long tg])), (v0, .inr (4, [.ref p0, .ref e0, .int tm, .int cbf])), (e0, .inr (2, [.ref e1, .int (nI en)])), (e1, .inl (cy 0, 70, .inl ef)), (i0, .inr (1, [.ref i1, .int (nI w), .int gr, .int bt, .int jo])), (i1, .inl (cy 1, 10, .inl hf))]) (w1 := [(s0, .inr (5, [.ref p0, .ref d0, .ref r0, .int (nI ct), .int (nI a), .int y, .int (nI sk)])), (p0, .inr (3, [.int (nI pB), .int (nI pS), .int (nI pG), .int (nI pE), .int (nI pC), .int (nI pO)])), (d0, .inr (2, [.ref d1, .int (nI n)])), (d1, .inl (cy 0, 70, .inl f)), (r0, .inr (2, [.ref r1, .int (nI rn)])), (r1, .inl (cy 0, 70, .inl rf))]) hP hD [1, 2, 3, 4, 5, 6] [0, 7, 8, 9, 10, 11] rfl rfl (by decide) (by decide) hk1 hFc hP1 hD1
            clear hPc hDc hFc hP1 hD1 hz1 hk1
            generalize H1 = H at hP hS ⊢
            have hP : va_P D vwCl [(h0, .inr (6, [.ref s0, .ref v0, .ref i0, .long tt, .long tg])), (v0, .inr (4, [.ref p0, .ref e0, .int tm, .int cbf])), (e0, .inr (2, [.ref e1, .int (nI en)])), (e1, .inl (cy 0, 70, .inl ef)), (i0, .inr (1, [.ref i1, .int (nI w), .int gr, .int bt, .int jo])), (i1, .inl (cy 1, 10, .inl hf)), (s0, .inr (5, [.ref p0, .ref d0, .ref r0, .int (nI ct), .int (nI a), .int y, .int (nI sk)])), (p0, .inr (3, [.int (nI pB), .int (nI pS), .int (nI pG), .int (nI pE), .int (nI pC), .int (nI pO)])), (d0, .inr (2, [.ref d1, .int (nI n)])), (d1, .inl (cy 0, 70, .inl f)), (r0, .inr (2, [.ref r1, .int (nI rn)])), (r1, .inl (cy 0, 70, .inl rf))] H := hP
            have hD : va_D A [(h0, .inr (6, [.ref s0, .ref v0, .ref i0, .long tt, .long tg])), (v0, .inr (4, [.ref p0, .ref e0, .int tm, .int cbf])), (e0, .inr (2, [.ref e1, .int (nI en)])), (e1, .inl (cy 0, 70, .inl ef)), (i0, .inr (1, [.ref i1, .int (nI w), .int gr, .int bt, .int jo])), (i1, .inl (cy 1, 10, .inl hf)), (s0, .inr (5, [.ref p0, .ref d0, .ref r0, .int (nI ct), .int (nI a), .int y, .int (nI sk)])), (p0, .inr (3, [.int (nI pB), .int (nI pS), .int (nI pG), .int (nI pE), .int (nI pC), .int (nI pO)])), (d0, .inr (2, [.ref d1, .int (nI n)])), (d1, .inl (cy 0, 70, .inl f)), (r0, .inr (2, [.ref r1, .int (nI rn)])), (r1, .inl (cy 0, 70, .inl rf))] := hD
            have hw_34 := hw
            refine lv_goto (tgt := 48) hx hb dX5_plant_37 (by decide) ?_
            refine lv_iconst (v := 1) hx hb dX5_plant_48 (by decide) ?_
            have hP9 := hP.sub (ws' := [(h0, .inr (6, [.ref s0, .ref v0, .ref i0, .long tt, .long tg])), (s0, .inr (5, [.ref p0, .ref d0, .ref r0, .int (nI ct), .int (nI a), .int y, .int (nI sk)])), (p0, .inr (3, [.int (nI pB), .int (nI pS), .int (nI pG), .int (nI pE), .int (nI pC), .int (nI pO)])), (d0, .inr (2, [.ref d1, .int (nI n)])), (d1, .inl (cy 0, 70, .inl f)), (r0, .inr (2, [.ref r1, .int (nI rn)])), (r1, .inl (cy 0, 70, .inl rf)), (v0, .inr (4, [.ref p0, .ref e0, .int tm, .int cbf])), (e0, .inr (2, [.ref e1, .int (nI en)])), (e1, .inl (cy 0, 70, .inl ef)), (i0, .inr (1, [.ref i1, .int (nI w), .int gr, .int bt, .int jo])), (i1, .inl (cy 1, 10, .inl hf))]) [0, 6, 7, 8, 9, 10, 11, 1, 2, 3, 4, 5] rfl
            have hD9 := hD.sub (ws' := [(h0, .inr (6, [.ref s0, .ref v0, .ref i0, .long tt, .long tg])), (s0, .inr (5, [.ref p0, .ref d0, .ref r0, .int (nI ct), .int (nI a), .int y, .int (nI sk)])), (p0, .inr (3, [.int (nI pB), .int (nI pS), .int (nI pG), .int (nI pE), .int (nI pC), .int (nI pO)])), (d0, .inr (2, [.ref d1, .int (nI n)])), (d1, .inl (cy 0, 70, .inl f)), (r0, .inr (2, [.ref r1, .int (nI rn)])), (r1, .inl (cy 0, 70, .inl rf)), (v0, .inr (4, [.ref p0, .ref e0, .int tm, .int cbf])), (e0, .inr (2, [.ref e1, .int (nI en)])), (e1, .inl (cy 0, 70, .inl ef)), (i0, .inr (1, [.ref i1, .int (nI w), .int gr, .int bt, .int jo])), (i1, .inl (cy 1, 10, .inl hf))]) [0, 6, 7, 8, 9, 10, 11, 1, 2, 3, 4, 5] (by decide) rfl
            exact W.iret (v := 1) hx hb hr (fun t ht hW => ⟨⟨1, (a, sk, y), rfl, Or.inr (Or.inr (Or.inl ⟨a, ha, rfl, c_25, rfl, rfl, rfl, rfl⟩)), by rw [ht]; exact hP9, hD9⟩, hS.F ht⟩) hS.2.2 dX5_plant_49
        · refine lv_bipush (v := (-2)) hx hb dX5_plant_21 (by decide) ?_
          have hP9 := hP.sub (ws' := [(h0, .inr (6, [.ref s0, .ref v0, .ref i0, .long tt, .long tg])), (s0, .inr (5, [.ref p0, .ref d0, .ref r0, .int (nI ct), .int (nI fp), .int fk, .int (nI sk)])), (p0, .inr (3, [.int (nI pB), .int (nI pS), .int (nI pG), .int (nI pE), .int (nI pC), .int (nI pO)])), (d0, .inr (2, [.ref d1, .int (nI n)])), (d1, .inl (cy 0, 70, .inl f)), (r0, .inr (2, [.ref r1, .int (nI rn)])), (r1, .inl (cy 0, 70, .inl rf)), (v0, .inr (4, [.ref p0, .ref e0, .int tm, .int cbf])), (e0, .inr (2, [.ref e1, .int (nI en)])), (e1, .inl (cy 0, 70, .inl ef)), (i0, .inr (1, [.ref i1, .int (nI w), .int gr, .int bt, .int jo])), (i1, .inl (cy 1, 10, .inl hf))]) [0, 1, 2, 3, 4, 5, 6, 7, 8, 9, 10, 11] rfl
          have hD9 := hD.sub (ws' := [(h0, .inr (6, [.ref s0, .ref v0, .ref i0, .long tt, .long tg])), (s0, .inr (5, [.ref p0, .ref d0, .ref r0, .int (nI ct), .int (nI fp), .int fk, .int (nI sk)])), (p0, .inr (3, [.int (nI pB), .int (nI pS), .int (nI pG), .int (nI pE), .int (nI pC), .int (nI pO)])), (d0, .inr (2, [.ref d1, .int (nI n)])), (d1, .inl (cy 0, 70, .inl f)), (r0, .inr (2, [.ref r1, .int (nI rn)])), (r1, .inl (cy 0, 70, .inl rf)), (v0, .inr (4, [.ref p0, .ref e0, .int tm, .int cbf])), (e0, .inr (2, [.ref e1, .int (nI en)])), (e1, .inl (cy 0, 70, .inl ef)), (i0, .inr (1, [.ref i1, .int (nI w), .int gr, .int bt, .int jo])), (i1, .inl (cy 1, 10, .inl hf))]) [0, 1, 2, 3, 4, 5, 6, 7, 8, 9, 10, 11] (by decide) rfl
          exact W.iret (v := (-2)) hx hb hr (fun t ht hW => ⟨⟨(-2), (fp, sk, fk), rfl, Or.inr (Or.inl ⟨Or.inr c_6, Or.inr c_18, rfl, rfl, rfl, rfl⟩), by rw [ht]; exact hP9, hD9⟩, hS.F ht⟩) hS.2.2 dX5_plant_23
    · refine lv_iconst (v := (-1)) hx hb dX5_plant_9 (by decide) ?_
      have hP9 := hP.sub (ws' := [(h0, .inr (6, [.ref s0, .ref v0, .ref i0, .long tt, .long tg])), (s0, .inr (5, [.ref p0, .ref d0, .ref r0, .int (nI ct), .int (nI fp), .int fk, .int (nI sk)])), (p0, .inr (3, [.int (nI pB), .int (nI pS), .int (nI pG), .int (nI pE), .int (nI pC), .int (nI pO)])), (d0, .inr (2, [.ref d1, .int (nI n)])), (d1, .inl (cy 0, 70, .inl f)), (r0, .inr (2, [.ref r1, .int (nI rn)])), (r1, .inl (cy 0, 70, .inl rf)), (v0, .inr (4, [.ref p0, .ref e0, .int tm, .int cbf])), (e0, .inr (2, [.ref e1, .int (nI en)])), (e1, .inl (cy 0, 70, .inl ef)), (i0, .inr (1, [.ref i1, .int (nI w), .int gr, .int bt, .int jo])), (i1, .inl (cy 1, 10, .inl hf))]) [0, 1, 2, 3, 4, 5, 6, 7, 8, 9, 10, 11] rfl
      have hD9 := hD.sub (ws' := [(h0, .inr (6, [.ref s0, .ref v0, .ref i0, .long tt, .long tg])), (s0, .inr (5, [.ref p0, .ref d0, .ref r0, .int (nI ct), .int (nI fp), .int fk, .int (nI sk)])), (p0, .inr (3, [.int (nI pB), .int (nI pS), .int (nI pG), .int (nI pE), .int (nI pC), .int (nI pO)])), (d0, .inr (2, [.ref d1, .int (nI n)])), (d1, .inl (cy 0, 70, .inl f)), (r0, .inr (2, [.ref r1, .int (nI rn)])), (r1, .inl (cy 0, 70, .inl rf)), (v0, .inr (4, [.ref p0, .ref e0, .int tm, .int cbf])), (e0, .inr (2, [.ref e1, .int (nI en)])), (e1, .inl (cy 0, 70, .inl ef)), (i0, .inr (1, [.ref i1, .int (nI w), .int gr, .int bt, .int jo])), (i1, .inl (cy 1, 10, .inl hf))]) [0, 1, 2, 3, 4, 5, 6, 7, 8, 9, 10, 11] (by decide) rfl
      exact W.iret (v := (-1)) hx hb hr (fun t ht hW => ⟨⟨(-1), (fp, sk, fk), rfl, Or.inl ⟨c_1, c_6, rfl, rfl, rfl, rfl⟩, by rw [ht]; exact hP9, hD9⟩, hS.F ht⟩) hS.2.2 dX5_plant_10

theorem iw_X5_react_X5 : ∀ w ∈ wsX50, w ∈ wsX5_react := by decide +kernel
theorem lk_X5_react_f94 : (.fieldLink RX5 94 "DataGuards" "timeTold" "J" : Cond) ∈ wsX5_react := by decide +kernel
theorem lk_X5_react_f98 : (.fieldLink RX5 98 "DataGuards" "timeOfGoodRow" "J" : Cond) ∈ wsX5_react := by decide +kernel
theorem lk_X5_react_k101 : (.constantLong RX5 101 (100) : Cond) ∈ wsX5_react := by decide +kernel
theorem lk_X5_react_f34 : (.fieldLink RX5 34 "DataGuards" "history" "LDataGuards$History;" : Cond) ∈ wsX5_react := by decide +kernel
theorem iw_X5_react_X0 : ∀ w ∈ wsX00, w ∈ wsX5_react := by decide +kernel
set_option maxHeartbeats 4000000 in
set_option maxRecDepth 100000 in
theorem c_X5_react (l : Launch) (D : va_G) (cy : Nat → ClassId) (sz : Nat) (h0 : Nat) (s0 : Nat) (v0 : Nat) (i0 : Nat) (p0 : Nat) (d0 : Nat) (d1 : Nat) (r0 : Nat) (r1 : Nat) (e0 : Nat) (e1 : Nat) (i1 : Nat) (tt : Int64) (tg : Int64) (ct : Nat) (fp : Nat) (fk : Int32) (sk : Nat) (pB : Nat) (pS : Nat) (pG : Nat) (pE : Nat) (pC : Nat) (pO : Nat) (f : Nat → Int32) (n : Nat) (rf : Nat → Int32) (rn : Nat) (tm : Int32) (cbf : Int32) (ef : Nat → Int32) (en : Nat) (hf : Nat → Int32) (w : Nat) (gr : Int32) (bt : Int32) (jo : Int32) (t0 : Int64)  : Met l yX5_react wsX5_react ({ frames := 0, cells := 0, slots := 0, locals := 0 } : Room) (pre1 D cy [.ref h0, .long t0] [(h0, .inr (6, [.ref s0, .ref v0, .ref i0, .long tt, .long tg])), (s0, .inr (5, [.ref p0, .ref d0, .ref r0, .int (nI ct), .int (nI fp), .int fk, .int (nI sk)])), (p0, .inr (3, [.int (nI pB), .int (nI pS), .int (nI pG), .int (nI pE), .int (nI pC), .int (nI pO)])), (d0, .inr (2, [.ref d1, .int (nI n)])), (d1, .inl (cy 0, 70, .inl f)), (r0, .inr (2, [.ref r1, .int (nI rn)])), (r1, .inl (cy 0, 70, .inl rf)), (v0, .inr (4, [.ref p0, .ref e0, .int tm, .int cbf])), (e0, .inr (2, [.ref e1, .int (nI en)])), (e1, .inl (cy 0, 70, .inl ef)), (i0, .inr (1, [.ref i1, .int (nI w), .int gr, .int bt, .int jo])), (i1, .inl (cy 1, 10, .inl hf))] sz) (va_Qi (fun (r : Int32) (u : (Int64)) => (drc t0 tt tg jo r u)) (fun u t => va_P D vwCl [(h0, .inr (6, [.ref s0, .ref v0, .ref i0, .long u, .long tg])), (s0, .inr (5, [.ref p0, .ref d0, .ref r0, .int (nI ct), .int (nI fp), .int fk, .int (nI sk)])), (p0, .inr (3, [.int (nI pB), .int (nI pS), .int (nI pG), .int (nI pE), .int (nI pC), .int (nI pO)])), (d0, .inr (2, [.ref d1, .int (nI n)])), (d1, .inl (cy 0, 70, .inl f)), (r0, .inr (2, [.ref r1, .int (nI rn)])), (r1, .inl (cy 0, 70, .inl rf)), (v0, .inr (4, [.ref p0, .ref e0, .int tm, .int cbf])), (e0, .inr (2, [.ref e1, .int (nI en)])), (e1, .inl (cy 0, 70, .inl ef)), (i0, .inr (1, [.ref i1, .int (nI w), .int gr, .int bt, .int jo])), (i1, .inl (cy 1, 10, .inl hf))] t.heap ∧ va_D (va_A [(h0, .inr (6, [.ref s0, .ref v0, .ref i0, .long tt, .long tg])), (s0, .inr (5, [.ref p0, .ref d0, .ref r0, .int (nI ct), .int (nI fp), .int fk, .int (nI sk)])), (p0, .inr (3, [.int (nI pB), .int (nI pS), .int (nI pG), .int (nI pE), .int (nI pC), .int (nI pO)])), (d0, .inr (2, [.ref d1, .int (nI n)])), (d1, .inl (cy 0, 70, .inl f)), (r0, .inr (2, [.ref r1, .int (nI rn)])), (r1, .inl (cy 0, 70, .inl rf)), (v0, .inr (4, [.ref p0, .ref e0, .int tm, .int cbf])), (e0, .inr (2, [.ref e1, .int (nI en)])), (e1, .inl (cy 0, 70, .inl ef)), (i0, .inr (1, [.ref i1, .int (nI w), .int gr, .int bt, .int jo])), (i1, .inl (cy 1, 10, .inl hf))] sz) [(h0, .inr (6, [.ref s0, .ref v0, .ref i0, .long u, .long tg])), (s0, .inr (5, [.ref p0, .ref d0, .ref r0, .int (nI ct), .int (nI fp), .int fk, .int (nI sk)])), (p0, .inr (3, [.int (nI pB), .int (nI pS), .int (nI pG), .int (nI pE), .int (nI pC), .int (nI pO)])), (d0, .inr (2, [.ref d1, .int (nI n)])), (d1, .inl (cy 0, 70, .inl f)), (r0, .inr (2, [.ref r1, .int (nI rn)])), (r1, .inl (cy 0, 70, .inl rf)), (v0, .inr (4, [.ref p0, .ref e0, .int tm, .int cbf])), (e0, .inr (2, [.ref e1, .int (nI en)])), (e1, .inl (cy 0, 70, .inl ef)), (i0, .inr (1, [.ref i1, .int (nI w), .int gr, .int bt, .int jo])), (i1, .inl (cy 1, 10, .inl hf))]) (va_A [(h0, .inr (6, [.ref s0, .ref v0, .ref i0, .long tt, .long tg])), (s0, .inr (5, [.ref p0, .ref d0, .ref r0, .int (nI ct), .int (nI fp), .int fk, .int (nI sk)])), (p0, .inr (3, [.int (nI pB), .int (nI pS), .int (nI pG), .int (nI pE), .int (nI pC), .int (nI pO)])), (d0, .inr (2, [.ref d1, .int (nI n)])), (d1, .inl (cy 0, 70, .inl f)), (r0, .inr (2, [.ref r1, .int (nI rn)])), (r1, .inl (cy 0, 70, .inl rf)), (v0, .inr (4, [.ref p0, .ref e0, .int tm, .int cbf])), (e0, .inr (2, [.ref e1, .int (nI en)])), (e1, .inl (cy 0, 70, .inl ef)), (i0, .inr (1, [.ref i1, .int (nI w), .int gr, .int bt, .int jo])), (i1, .inl (cy 1, 10, .inl hf))] sz)) 0 0 (va_A [(h0, .inr (6, [.ref s0, .ref v0, .ref i0, .long tt, .long tg])), (s0, .inr (5, [.ref p0, .ref d0, .ref r0, .int (nI ct), .int (nI fp), .int fk, .int (nI sk)])), (p0, .inr (3, [.int (nI pB), .int (nI pS), .int (nI pG), .int (nI pE), .int (nI pC), .int (nI pO)])), (d0, .inr (2, [.ref d1, .int (nI n)])), (d1, .inl (cy 0, 70, .inl f)), (r0, .inr (2, [.ref r1, .int (nI rn)])), (r1, .inl (cy 0, 70, .inl rf)), (v0, .inr (4, [.ref p0, .ref e0, .int tm, .int cbf])), (e0, .inr (2, [.ref e1, .int (nI en)])), (e1, .inl (cy 0, 70, .inl ef)), (i0, .inr (1, [.ref i1, .int (nI w), .int gr, .int bt, .int jo])), (i1, .inl (cy 1, 10, .inl hf))] sz) := by
  refine Met.ofW (cc := cX5_react) (maxL := 3) (ret := (some .int)) (by decide) rfl ?_
  intro p e s m args below meth c s₁ B hml hv
  obtain ⟨rfl, hsz, hP, hkk, hD0⟩ := hv
  have hx := B.exec
  have hb := B.bytes
  have hr := B.returns
  have hts := atoms_spec (ws := wsX5_react) B.pre
  have hown : s.vm.findClass RX5 = some m.cls := findClass_of_methodNamed B.named
  have hlocks := B.notSynchronized
  have hin : meth.name = _ := (name_of_methodNamed B.named B.method).1
  have hK := hkk.1
  subst hsz
  have hD := hD0.self (sz := s.heap.size)
  generalize hAe : va_A [(h0, .inr (6, [.ref s0, .ref v0, .ref i0, .long tt, .long tg])), (s0, .inr (5, [.ref p0, .ref d0, .ref r0, .int (nI ct), .int (nI fp), .int fk, .int (nI sk)])), (p0, .inr (3, [.int (nI pB), .int (nI pS), .int (nI pG), .int (nI pE), .int (nI pC), .int (nI pO)])), (d0, .inr (2, [.ref d1, .int (nI n)])), (d1, .inl (cy 0, 70, .inl f)), (r0, .inr (2, [.ref r1, .int (nI rn)])), (r1, .inl (cy 0, 70, .inl rf)), (v0, .inr (4, [.ref p0, .ref e0, .int tm, .int cbf])), (e0, .inr (2, [.ref e1, .int (nI en)])), (e1, .inl (cy 0, 70, .inl ef)), (i0, .inr (1, [.ref i1, .int (nI w), .int gr, .int bt, .int jo])), (i1, .inl (cy 1, 10, .inl hf))] s.heap.size = A at hD ⊢
  have hA : ∀ q : Nat, s.heap.size ≤ q → A q := fun q h => by rw [← hAe]; exact Or.inr h
  have hS : va_S A s.heap s.heap [] := va_S.rf
  have hP : va_P D vwCl [(h0, .inr (6, [.ref s0, .ref v0, .ref i0, .long tt, .long tg])), (s0, .inr (5, [.ref p0, .ref d0, .ref r0, .int (nI ct), .int (nI fp), .int fk, .int (nI sk)])), (p0, .inr (3, [.int (nI pB), .int (nI pS), .int (nI pG), .int (nI pE), .int (nI pC), .int (nI pO)])), (d0, .inr (2, [.ref d1, .int (nI n)])), (d1, .inl (cy 0, 70, .inl f)), (r0, .inr (2, [.ref r1, .int (nI rn)])), (r1, .inl (cy 0, 70, .inl rf)), (v0, .inr (4, [.ref p0, .ref e0, .int tm, .int cbf])), (e0, .inr (2, [.ref e1, .int (nI en)])), (e1, .inl (cy 0, 70, .inl ef)), (i0, .inr (1, [.ref i1, .int (nI w), .int gr, .int bt, .int jo])), (i1, .inl (cy 1, 10, .inl hf))] s.heap := hP
  have hl := lv_entry ([.ref h0, .long t0]) (n := 3) (Nat.le_of_ble_eq_true rfl)
  rw [lg_entry_eq]
  generalize (lg_sl ([.ref h0, .long t0]) ++ List.replicate (3 - (lg_sl ([.ref h0, .long t0])).length) Slot.unset).toArray = ls at hl ⊢
  have hl : lv_has ls 3 [(0, .ref h0), (1, .long t0)] := hl
  refine lv_lload_n hx hb dX5_react_0 rfl (lv_at hl 1 rfl) ?_
  refine lv_aload_n hx hb dX5_react_1 rfl (lv_at hl 0 rfl) ?_
  refine va_get (D := D) (ci := 6) (v := .long tt) (C := RX5) (T := TX5) (N := 5) hx hb hts iw_X5_react_X5 hown hK hP 0 rfl rfl 3 (by decide) (hts _ lk_X5_react_f94) (fun _ h9 => h9) rfl dX5_react_2 ?_
  refine W.lcmp hx hb dX5_react_5 ?_
  refine lv_if_ge (tgt := 12) hx hb dX5_react_6 (by decide) (fun c_6 => ?_) (fun c_6 => ?_)
  · refine lv_aload_n hx hb dX5_react_12 rfl (lv_at hl 0 rfl) ?_
    refine lv_lload_n hx hb dX5_react_13 rfl (lv_at hl 1 rfl) ?_
    refine va_put (D := D) (ci := 6) (v := .long t0) (ty := .long) (C := RX5) (T := TX5) (N := 5) hx hb hts iw_X5_react_X5 tyX5 tyX5_ok nmX5 hown hK hP hD hS 0 rfl rfl 3 (by decide) (hts _ lk_X5_react_f94) (fun _ h9 => h9) rfl (by decide +kernel) rfl rfl (Nat.le_of_ble_eq_true rfl) dX5_react_14 (fun H locs hP hD hS => ?_)
    have hP : va_P D vwCl [(h0, .inr (6, [.ref s0, .ref v0, .ref i0, .long t0, .long tg])), (s0, .inr (5, [.ref p0, .ref d0, .ref r0, .int (nI ct), .int (nI fp), .int fk, .int (nI sk)])), (p0, .inr (3, [.int (nI pB), .int (nI pS), .int (nI pG), .int (nI pE), .int (nI pC), .int (nI pO)])), (d0, .inr (2, [.ref d1, .int (nI n)])), (d1, .inl (cy 0, 70, .inl f)), (r0, .inr (2, [.ref r1, .int (nI rn)])), (r1, .inl (cy 0, 70, .inl rf)), (v0, .inr (4, [.ref p0, .ref e0, .int tm, .int cbf])), (e0, .inr (2, [.ref e1, .int (nI en)])), (e1, .inl (cy 0, 70, .inl ef)), (i0, .inr (1, [.ref i1, .int (nI w), .int gr, .int bt, .int jo])), (i1, .inl (cy 1, 10, .inl hf))] H := hP
    have hD : va_D A [(h0, .inr (6, [.ref s0, .ref v0, .ref i0, .long t0, .long tg])), (s0, .inr (5, [.ref p0, .ref d0, .ref r0, .int (nI ct), .int (nI fp), .int fk, .int (nI sk)])), (p0, .inr (3, [.int (nI pB), .int (nI pS), .int (nI pG), .int (nI pE), .int (nI pC), .int (nI pO)])), (d0, .inr (2, [.ref d1, .int (nI n)])), (d1, .inl (cy 0, 70, .inl f)), (r0, .inr (2, [.ref r1, .int (nI rn)])), (r1, .inl (cy 0, 70, .inl rf)), (v0, .inr (4, [.ref p0, .ref e0, .int tm, .int cbf])), (e0, .inr (2, [.ref e1, .int (nI en)])), (e1, .inl (cy 0, 70, .inl ef)), (i0, .inr (1, [.ref i1, .int (nI w), .int gr, .int bt, .int jo])), (i1, .inl (cy 1, 10, .inl hf))] := hD
    refine lv_lload_n hx hb dX5_react_17 rfl (lv_at hl 1 rfl) ?_
    refine lv_aload_n hx hb dX5_react_18 rfl (lv_at hl 0 rfl) ?_
    refine va_get (D := D) (ci := 6) (v := .long tg) (C := RX5) (T := TX5) (N := 5) hx hb hts iw_X5_react_X5 hown hK hP 0 rfl rfl 4 (by decide) (hts _ lk_X5_react_f98) (fun _ h9 => h9) rfl dX5_react_19 ?_
    refine lv_lsub hx hb dX5_react_22 ?_
    refine lv_ldc2 (v := 100) hx hb hown (hts _ lk_X5_react_k101) dX5_react_23 ?_
    refine W.lcmp hx hb dX5_react_26 ?_
    refine lv_if_ge (tgt := 41) hx hb dX5_react_27 (by decide) (fun c_27 => ?_) (fun c_27 => ?_)
    · refine lv_iconst (v := 1) hx hb dX5_react_41 (by decide) ?_
      refine lv_goto (tgt := 46) hx hb dX5_react_42 (by decide) ?_
      have hP9 := hP.sub (ws' := [(h0, .inr (6, [.ref s0, .ref v0, .ref i0, .long t0, .long tg])), (s0, .inr (5, [.ref p0, .ref d0, .ref r0, .int (nI ct), .int (nI fp), .int fk, .int (nI sk)])), (p0, .inr (3, [.int (nI pB), .int (nI pS), .int (nI pG), .int (nI pE), .int (nI pC), .int (nI pO)])), (d0, .inr (2, [.ref d1, .int (nI n)])), (d1, .inl (cy 0, 70, .inl f)), (r0, .inr (2, [.ref r1, .int (nI rn)])), (r1, .inl (cy 0, 70, .inl rf)), (v0, .inr (4, [.ref p0, .ref e0, .int tm, .int cbf])), (e0, .inr (2, [.ref e1, .int (nI en)])), (e1, .inl (cy 0, 70, .inl ef)), (i0, .inr (1, [.ref i1, .int (nI w), .int gr, .int bt, .int jo])), (i1, .inl (cy 1, 10, .inl hf))]) [0, 1, 2, 3, 4, 5, 6, 7, 8, 9, 10, 11] rfl
      have hD9 := hD.sub (ws' := [(h0, .inr (6, [.ref s0, .ref v0, .ref i0, .long t0, .long tg])), (s0, .inr (5, [.ref p0, .ref d0, .ref r0, .int (nI ct), .int (nI fp), .int fk, .int (nI sk)])), (p0, .inr (3, [.int (nI pB), .int (nI pS), .int (nI pG), .int (nI pE), .int (nI pC), .int (nI pO)])), (d0, .inr (2, [.ref d1, .int (nI n)])), (d1, .inl (cy 0, 70, .inl f)), (r0, .inr (2, [.ref r1, .int (nI rn)])), (r1, .inl (cy 0, 70, .inl rf)), (v0, .inr (4, [.ref p0, .ref e0, .int tm, .int cbf])), (e0, .inr (2, [.ref e1, .int (nI en)])), (e1, .inl (cy 0, 70, .inl ef)), (i0, .inr (1, [.ref i1, .int (nI w), .int gr, .int bt, .int jo])), (i1, .inl (cy 1, 10, .inl hf))]) [0, 1, 2, 3, 4, 5, 6, 7, 8, 9, 10, 11] (by decide) rfl
      exact W.iret (v := 1) hx hb hr (fun t ht hW => ⟨⟨1, t0, rfl, Or.inr ⟨Int64.not_lt.mpr ((lg_cmp_ge _ _).mp c_6), rfl, by rw [if_pos (Or.inl ((lg_cmp_ge _ _).mp c_27))]⟩, by rw [ht]; exact hP9, hD9⟩, hS.F ht⟩) hS.2.2 dX5_react_46
    · refine lv_aload_n hx hb dX5_react_30 rfl (lv_at hl 0 rfl) ?_
      refine va_get (D := D) (ci := 6) (v := .ref i0) (C := RX5) (T := TX5) (N := 5) hx hb hts iw_X5_react_X5 hown hK hP 0 rfl rfl 2 (by decide) (hts _ lk_X5_react_f34) (fun _ h9 => h9) rfl dX5_react_31 ?_
      refine va_getN (D := D) (ci := 1) (v := .int jo) (C := RX0) (T := TX0) (N := 5) hx hb hts iw_X5_react_X0 hown hK hP 10 rfl rfl 4 (by decide) (nw_use 8 rfl rfl hkk.2) (fun _ h9 => h9) rfl dX5_react_34 ?_
      refine lv_iconst (v := 3) hx hb dX5_react_37 (by decide) ?_
      refine lv_icmp_ne (tgt := 45) hx hb dX5_react_38 (by decide) (fun c_38 => ?_) (fun c_38 => ?_)
      · refine lv_iconst (v := 0) hx hb dX5_react_45 (by decide) ?_
        have hP9 := hP.sub (ws' := [(h0, .inr (6, [.ref s0, .ref v0, .ref i0, .long t0, .long tg])), (s0, .inr (5, [.ref p0, .ref d0, .ref r0, .int (nI ct), .int (nI fp), .int fk, .int (nI sk)])), (p0, .inr (3, [.int (nI pB), .int (nI pS), .int (nI pG), .int (nI pE), .int (nI pC), .int (nI pO)])), (d0, .inr (2, [.ref d1, .int (nI n)])), (d1, .inl (cy 0, 70, .inl f)), (r0, .inr (2, [.ref r1, .int (nI rn)])), (r1, .inl (cy 0, 70, .inl rf)), (v0, .inr (4, [.ref p0, .ref e0, .int tm, .int cbf])), (e0, .inr (2, [.ref e1, .int (nI en)])), (e1, .inl (cy 0, 70, .inl ef)), (i0, .inr (1, [.ref i1, .int (nI w), .int gr, .int bt, .int jo])), (i1, .inl (cy 1, 10, .inl hf))]) [0, 1, 2, 3, 4, 5, 6, 7, 8, 9, 10, 11] rfl
        have hD9 := hD.sub (ws' := [(h0, .inr (6, [.ref s0, .ref v0, .ref i0, .long t0, .long tg])), (s0, .inr (5, [.ref p0, .ref d0, .ref r0, .int (nI ct), .int (nI fp), .int fk, .int (nI sk)])), (p0, .inr (3, [.int (nI pB), .int (nI pS), .int (nI pG), .int (nI pE), .int (nI pC), .int (nI pO)])), (d0, .inr (2, [.ref d1, .int (nI n)])), (d1, .inl (cy 0, 70, .inl f)), (r0, .inr (2, [.ref r1, .int (nI rn)])), (r1, .inl (cy 0, 70, .inl rf)), (v0, .inr (4, [.ref p0, .ref e0, .int tm, .int cbf])), (e0, .inr (2, [.ref e1, .int (nI en)])), (e1, .inl (cy 0, 70, .inl ef)), (i0, .inr (1, [.ref i1, .int (nI w), .int gr, .int bt, .int jo])), (i1, .inl (cy 1, 10, .inl hf))]) [0, 1, 2, 3, 4, 5, 6, 7, 8, 9, 10, 11] (by decide) rfl
        exact W.iret (v := 0) hx hb hr (fun t ht hW => ⟨⟨0, t0, rfl, Or.inr ⟨Int64.not_lt.mpr ((lg_cmp_ge _ _).mp c_6), rfl, by rw [if_neg (fun q => q.elim (fun z => c_27 ((lg_cmp_ge _ _).mpr z)) c_38)]⟩, by rw [ht]; exact hP9, hD9⟩, hS.F ht⟩) hS.2.2 dX5_react_46
      · refine lv_iconst (v := 1) hx hb dX5_react_41 (by decide) ?_
        refine lv_goto (tgt := 46) hx hb dX5_react_42 (by decide) ?_
        have hP9 := hP.sub (ws' := [(h0, .inr (6, [.ref s0, .ref v0, .ref i0, .long t0, .long tg])), (s0, .inr (5, [.ref p0, .ref d0, .ref r0, .int (nI ct), .int (nI fp), .int fk, .int (nI sk)])), (p0, .inr (3, [.int (nI pB), .int (nI pS), .int (nI pG), .int (nI pE), .int (nI pC), .int (nI pO)])), (d0, .inr (2, [.ref d1, .int (nI n)])), (d1, .inl (cy 0, 70, .inl f)), (r0, .inr (2, [.ref r1, .int (nI rn)])), (r1, .inl (cy 0, 70, .inl rf)), (v0, .inr (4, [.ref p0, .ref e0, .int tm, .int cbf])), (e0, .inr (2, [.ref e1, .int (nI en)])), (e1, .inl (cy 0, 70, .inl ef)), (i0, .inr (1, [.ref i1, .int (nI w), .int gr, .int bt, .int jo])), (i1, .inl (cy 1, 10, .inl hf))]) [0, 1, 2, 3, 4, 5, 6, 7, 8, 9, 10, 11] rfl
        have hD9 := hD.sub (ws' := [(h0, .inr (6, [.ref s0, .ref v0, .ref i0, .long t0, .long tg])), (s0, .inr (5, [.ref p0, .ref d0, .ref r0, .int (nI ct), .int (nI fp), .int fk, .int (nI sk)])), (p0, .inr (3, [.int (nI pB), .int (nI pS), .int (nI pG), .int (nI pE), .int (nI pC), .int (nI pO)])), (d0, .inr (2, [.ref d1, .int (nI n)])), (d1, .inl (cy 0, 70, .inl f)), (r0, .inr (2, [.ref r1, .int (nI rn)])), (r1, .inl (cy 0, 70, .inl rf)), (v0, .inr (4, [.ref p0, .ref e0, .int tm, .int cbf])), (e0, .inr (2, [.ref e1, .int (nI en)])), (e1, .inl (cy 0, 70, .inl ef)), (i0, .inr (1, [.ref i1, .int (nI w), .int gr, .int bt, .int jo])), (i1, .inl (cy 1, 10, .inl hf))]) [0, 1, 2, 3, 4, 5, 6, 7, 8, 9, 10, 11] (by decide) rfl
        exact W.iret (v := 1) hx hb hr (fun t ht hW => ⟨⟨1, t0, rfl, Or.inr ⟨Int64.not_lt.mpr ((lg_cmp_ge _ _).mp c_6), rfl, by rw [if_pos (Or.inr c_38)]⟩, by rw [ht]; exact hP9, hD9⟩, hS.F ht⟩) hS.2.2 dX5_react_46
  · refine lv_bipush (v := (-2)) hx hb dX5_react_9 (by decide) ?_
    have hP9 := hP.sub (ws' := [(h0, .inr (6, [.ref s0, .ref v0, .ref i0, .long tt, .long tg])), (s0, .inr (5, [.ref p0, .ref d0, .ref r0, .int (nI ct), .int (nI fp), .int fk, .int (nI sk)])), (p0, .inr (3, [.int (nI pB), .int (nI pS), .int (nI pG), .int (nI pE), .int (nI pC), .int (nI pO)])), (d0, .inr (2, [.ref d1, .int (nI n)])), (d1, .inl (cy 0, 70, .inl f)), (r0, .inr (2, [.ref r1, .int (nI rn)])), (r1, .inl (cy 0, 70, .inl rf)), (v0, .inr (4, [.ref p0, .ref e0, .int tm, .int cbf])), (e0, .inr (2, [.ref e1, .int (nI en)])), (e1, .inl (cy 0, 70, .inl ef)), (i0, .inr (1, [.ref i1, .int (nI w), .int gr, .int bt, .int jo])), (i1, .inl (cy 1, 10, .inl hf))]) [0, 1, 2, 3, 4, 5, 6, 7, 8, 9, 10, 11] rfl
    have hD9 := hD.sub (ws' := [(h0, .inr (6, [.ref s0, .ref v0, .ref i0, .long tt, .long tg])), (s0, .inr (5, [.ref p0, .ref d0, .ref r0, .int (nI ct), .int (nI fp), .int fk, .int (nI sk)])), (p0, .inr (3, [.int (nI pB), .int (nI pS), .int (nI pG), .int (nI pE), .int (nI pC), .int (nI pO)])), (d0, .inr (2, [.ref d1, .int (nI n)])), (d1, .inl (cy 0, 70, .inl f)), (r0, .inr (2, [.ref r1, .int (nI rn)])), (r1, .inl (cy 0, 70, .inl rf)), (v0, .inr (4, [.ref p0, .ref e0, .int tm, .int cbf])), (e0, .inr (2, [.ref e1, .int (nI en)])), (e1, .inl (cy 0, 70, .inl ef)), (i0, .inr (1, [.ref i1, .int (nI w), .int gr, .int bt, .int jo])), (i1, .inl (cy 1, 10, .inl hf))]) [0, 1, 2, 3, 4, 5, 6, 7, 8, 9, 10, 11] (by decide) rfl
    exact W.iret (v := (-2)) hx hb hr (fun t ht hW => ⟨⟨(-2), tt, rfl, Or.inl ⟨Int64.not_le.mp (fun q => c_6 ((lg_cmp_ge _ _).mpr q)), rfl, rfl⟩, by rw [ht]; exact hP9, hD9⟩, hS.F ht⟩) hS.2.2 dX5_react_11

theorem iw_X5_endOfRow_X5 : ∀ w ∈ wsX50, w ∈ wsX5_endOfRow := by decide +kernel
theorem lk_X5_endOfRow_f27 : (.fieldLink RX5 27 "DataGuards" "receiver" "LDataGuards$Receiver;" : Cond) ∈ wsX5_endOfRow := by decide +kernel
theorem lk_X5_endOfRow_f34 : (.fieldLink RX5 34 "DataGuards" "history" "LDataGuards$History;" : Cond) ∈ wsX5_endOfRow := by decide +kernel
theorem lk_X5_endOfRow_f94 : (.fieldLink RX5 94 "DataGuards" "timeTold" "J" : Cond) ∈ wsX5_endOfRow := by decide +kernel
theorem lk_X5_endOfRow_f98 : (.fieldLink RX5 98 "DataGuards" "timeOfGoodRow" "J" : Cond) ∈ wsX5_endOfRow := by decide +kernel
set_option maxHeartbeats 4000000 in
set_option maxRecDepth 100000 in
theorem c_X5_endOfRow (l : Launch) (D : va_G) (cy : Nat → ClassId) (sz : Nat) (h0 : Nat) (s0 : Nat) (v0 : Nat) (i0 : Nat) (p0 : Nat) (d0 : Nat) (d1 : Nat) (r0 : Nat) (r1 : Nat) (e0 : Nat) (e1 : Nat) (i1 : Nat) (tt : Int64) (tg : Int64) (ct : Nat) (fp : Nat) (fk : Int32) (sk : Nat) (pB : Nat) (pS : Nat) (pG : Nat) (pE : Nat) (pC : Nat) (pO : Nat) (f : Nat → Int32) (n : Nat) (rf : Nat → Int32) (rn : Nat) (tm : Int32) (cbf : Int32) (ef : Nat → Int32) (en : Nat) (hf : Nat → Int32) (w : Nat) (gr : Int32) (bt : Int32) (jo : Int32) (eg : Nat → Nat) (d : Nat) (hpv : pvd pB pS pG pE pC pO) (hen : en ≤ 70) (heg : oc_is ef en eg) (hw9 : w ≤ 10) (hd : d < 65536) : Met l yX5_endOfRow wsX5_endOfRow ({ frames := 6, cells := 0, slots := 0, locals := 131 } : Room) (pre1 D cy [.ref h0, .int (nI d)] [(h0, .inr (6, [.ref s0, .ref v0, .ref i0, .long tt, .long tg])), (s0, .inr (5, [.ref p0, .ref d0, .ref r0, .int (nI ct), .int (nI fp), .int fk, .int (nI sk)])), (p0, .inr (3, [.int (nI pB), .int (nI pS), .int (nI pG), .int (nI pE), .int (nI pC), .int (nI pO)])), (d0, .inr (2, [.ref d1, .int (nI n)])), (d1, .inl (cy 0, 70, .inl f)), (r0, .inr (2, [.ref r1, .int (nI rn)])), (r1, .inl (cy 0, 70, .inl rf)), (v0, .inr (4, [.ref p0, .ref e0, .int tm, .int cbf])), (e0, .inr (2, [.ref e1, .int (nI en)])), (e1, .inl (cy 0, 70, .inl ef)), (i0, .inr (1, [.ref i1, .int (nI w), .int gr, .int bt, .int jo])), (i1, .inl (cy 1, 10, .inl hf))] sz) (va_Qi (fun (r : Int32) (u : (Int32) × (Nat → Int32) × (Nat) × (Int32) × (Int32) × (Int32) × (Int64)) => (eor pB pS pG pE pC pO d en eg tm cbf hf w gr bt jo tt tg r u.1 u.2.1 u.2.2.1 u.2.2.2.1 u.2.2.2.2.1 u.2.2.2.2.2.1 u.2.2.2.2.2.2)) (fun u t => va_P D vwCl [(h0, .inr (6, [.ref s0, .ref v0, .ref i0, .long tt, .long u.2.2.2.2.2.2])), (s0, .inr (5, [.ref p0, .ref d0, .ref r0, .int (nI ct), .int (nI fp), .int fk, .int (nI sk)])), (p0, .inr (3, [.int (nI pB), .int (nI pS), .int (nI pG), .int (nI pE), .int (nI pC), .int (nI pO)])), (d0, .inr (2, [.ref d1, .int (nI n)])), (d1, .inl (cy 0, 70, .inl f)), (r0, .inr (2, [.ref r1, .int (nI rn)])), (r1, .inl (cy 0, 70, .inl rf)), (v0, .inr (4, [.ref p0, .ref e0, .int 0, .int u.1])), (e0, .inr (2, [.ref e1, .int (nI 0)])), (e1, .inl (cy 0, 70, .inl ef)), (i0, .inr (1, [.ref i1, .int (nI u.2.2.1), .int u.2.2.2.1, .int u.2.2.2.2.1, .int u.2.2.2.2.2.1])), (i1, .inl (cy 1, 10, .inl u.2.1))] t.heap ∧ va_D (va_A [(h0, .inr (6, [.ref s0, .ref v0, .ref i0, .long tt, .long tg])), (s0, .inr (5, [.ref p0, .ref d0, .ref r0, .int (nI ct), .int (nI fp), .int fk, .int (nI sk)])), (p0, .inr (3, [.int (nI pB), .int (nI pS), .int (nI pG), .int (nI pE), .int (nI pC), .int (nI pO)])), (d0, .inr (2, [.ref d1, .int (nI n)])), (d1, .inl (cy 0, 70, .inl f)), (r0, .inr (2, [.ref r1, .int (nI rn)])), (r1, .inl (cy 0, 70, .inl rf)), (v0, .inr (4, [.ref p0, .ref e0, .int tm, .int cbf])), (e0, .inr (2, [.ref e1, .int (nI en)])), (e1, .inl (cy 0, 70, .inl ef)), (i0, .inr (1, [.ref i1, .int (nI w), .int gr, .int bt, .int jo])), (i1, .inl (cy 1, 10, .inl hf))] sz) [(h0, .inr (6, [.ref s0, .ref v0, .ref i0, .long tt, .long u.2.2.2.2.2.2])), (s0, .inr (5, [.ref p0, .ref d0, .ref r0, .int (nI ct), .int (nI fp), .int fk, .int (nI sk)])), (p0, .inr (3, [.int (nI pB), .int (nI pS), .int (nI pG), .int (nI pE), .int (nI pC), .int (nI pO)])), (d0, .inr (2, [.ref d1, .int (nI n)])), (d1, .inl (cy 0, 70, .inl f)), (r0, .inr (2, [.ref r1, .int (nI rn)])), (r1, .inl (cy 0, 70, .inl rf)), (v0, .inr (4, [.ref p0, .ref e0, .int 0, .int u.1])), (e0, .inr (2, [.ref e1, .int (nI 0)])), (e1, .inl (cy 0, 70, .inl ef)), (i0, .inr (1, [.ref i1, .int (nI u.2.2.1), .int u.2.2.2.1, .int u.2.2.2.2.1, .int u.2.2.2.2.2.1])), (i1, .inl (cy 1, 10, .inl u.2.1))]) (va_A [(h0, .inr (6, [.ref s0, .ref v0, .ref i0, .long tt, .long tg])), (s0, .inr (5, [.ref p0, .ref d0, .ref r0, .int (nI ct), .int (nI fp), .int fk, .int (nI sk)])), (p0, .inr (3, [.int (nI pB), .int (nI pS), .int (nI pG), .int (nI pE), .int (nI pC), .int (nI pO)])), (d0, .inr (2, [.ref d1, .int (nI n)])), (d1, .inl (cy 0, 70, .inl f)), (r0, .inr (2, [.ref r1, .int (nI rn)])), (r1, .inl (cy 0, 70, .inl rf)), (v0, .inr (4, [.ref p0, .ref e0, .int tm, .int cbf])), (e0, .inr (2, [.ref e1, .int (nI en)])), (e1, .inl (cy 0, 70, .inl ef)), (i0, .inr (1, [.ref i1, .int (nI w), .int gr, .int bt, .int jo])), (i1, .inl (cy 1, 10, .inl hf))] sz)) 0 0 (va_A [(h0, .inr (6, [.ref s0, .ref v0, .ref i0, .long tt, .long tg])), (s0, .inr (5, [.ref p0, .ref d0, .ref r0, .int (nI ct), .int (nI fp), .int fk, .int (nI sk)])), (p0, .inr (3, [.int (nI pB), .int (nI pS), .int (nI pG), .int (nI pE), .int (nI pC), .int (nI pO)])), (d0, .inr (2, [.ref d1, .int (nI n)])), (d1, .inl (cy 0, 70, .inl f)), (r0, .inr (2, [.ref r1, .int (nI rn)])), (r1, .inl (cy 0, 70, .inl rf)), (v0, .inr (4, [.ref p0, .ref e0, .int tm, .int cbf])), (e0, .inr (2, [.ref e1, .int (nI en)])), (e1, .inl (cy 0, 70, .inl ef)), (i0, .inr (1, [.ref i1, .int (nI w), .int gr, .int bt, .int jo])), (i1, .inl (cy 1, 10, .inl hf))] sz) := by
  refine Met.ofW (cc := cX5_endOfRow) (maxL := 3) (ret := (some .int)) (by decide) rfl ?_
  intro p e s m args below meth c s₁ B hml hv
  obtain ⟨rfl, hsz, hP, hkk, hD0⟩ := hv
  have hx := B.exec
  have hb := B.bytes
  have hr := B.returns
  have hts := atoms_spec (ws := wsX5_endOfRow) B.pre
  have hown : s.vm.findClass RX5 = some m.cls := findClass_of_methodNamed B.named
  have hlocks := B.notSynchronized
  have hin : meth.name = _ := (name_of_methodNamed B.named B.method).1
  have hK := hkk.1
  subst hsz
  have hD := hD0.self (sz := s.heap.size)
  generalize hAe : va_A [(h0, .inr (6, [.ref s0, .ref v0, .ref i0, .long tt, .long tg])), (s0, .inr (5, [.ref p0, .ref d0, .ref r0, .int (nI ct), .int (nI fp), .int fk, .int (nI sk)])), (p0, .inr (3, [.int (nI pB), .int (nI pS), .int (nI pG), .int (nI pE), .int (nI pC), .int (nI pO)])), (d0, .inr (2, [.ref d1, .int (nI n)])), (d1, .inl (cy 0, 70, .inl f)), (r0, .inr (2, [.ref r1, .int (nI rn)])), (r1, .inl (cy 0, 70, .inl rf)), (v0, .inr (4, [.ref p0, .ref e0, .int tm, .int cbf])), (e0, .inr (2, [.ref e1, .int (nI en)])), (e1, .inl (cy 0, 70, .inl ef)), (i0, .inr (1, [.ref i1, .int (nI w), .int gr, .int bt, .int jo])), (i1, .inl (cy 1, 10, .inl hf))] s.heap.size = A at hD ⊢
  have hA : ∀ q : Nat, s.heap.size ≤ q → A q := fun q h => by rw [← hAe]; exact Or.inr h
  have hS : va_S A s.heap s.heap [] := va_S.rf
  have hP : va_P D vwCl [(h0, .inr (6, [.ref s0, .ref v0, .ref i0, .long tt, .long tg])), (s0, .inr (5, [.ref p0, .ref d0, .ref r0, .int (nI ct), .int (nI fp), .int fk, .int (nI sk)])), (p0, .inr (3, [.int (nI pB), .int (nI pS), .int (nI pG), .int (nI pE), .int (nI pC), .int (nI pO)])), (d0, .inr (2, [.ref d1, .int (nI n)])), (d1, .inl (cy 0, 70, .inl f)), (r0, .inr (2, [.ref r1, .int (nI rn)])), (r1, .inl (cy 0, 70, .inl rf)), (v0, .inr (4, [.ref p0, .ref e0, .int tm, .int cbf])), (e0, .inr (2, [.ref e1, .int (nI en)])), (e1, .inl (cy 0, 70, .inl ef)), (i0, .inr (1, [.ref i1, .int (nI w), .int gr, .int bt, .int jo])), (i1, .inl (cy 1, 10, .inl hf))] s.heap := hP
  have hl := lv_entry ([.ref h0, .int (nI d)]) (n := 3) (Nat.le_of_ble_eq_true rfl)
  rw [lg_entry_eq]
  generalize (lg_sl ([.ref h0, .int (nI d)]) ++ List.replicate (3 - (lg_sl ([.ref h0, .int (nI d)])).length) Slot.unset).toArray = ls at hl ⊢
  have hl : lv_has ls 3 [(0, .ref h0), (1, .int (nI d))] := hl
  refine lv_aload_n hx hb dX5_endOfRow_0 rfl (lv_at hl 0 rfl) ?_
  refine va_get (D := D) (ci := 6) (v := .ref v0) (C := RX5) (T := TX5) (N := 5) hx hb hts iw_X5_endOfRow_X5 hown hK hP 0 rfl rfl 1 (by decide) (hts _ lk_X5_endOfRow_f27) (fun _ h9 => h9) rfl dX5_endOfRow_1 ?_
  refine lv_iload_n hx hb dX5_endOfRow_4 rfl (lv_at hl 1 rfl) ?_
  have hPc := hP.sub (ws' := [(v0, .inr (4, [.ref p0, .ref e0, .int tm, .int cbf])), (p0, .inr (3, [.int (nI pB), .int (nI pS), .int (nI pG), .int (nI pE), .int (nI pC), .int (nI pO)])), (e0, .inr (2, [.ref e1, .int (nI en)])), (e1, .inl (cy 0, 70, .inl ef))]) [7, 2, 8, 9] rfl
  have hDc := hD.sub (ws' := [(v0, .inr (4, [.ref p0, .ref e0, .int tm, .int cbf])), (p0, .inr (3, [.int (nI pB), .int (nI pS), .int (nI pG), .int (nI pE), .int (nI pC), .int (nI pO)])), (e0, .inr (2, [.ref e1, .int (nI en)])), (e1, .inl (cy 0, 70, .inl ef))]) [7, 2, 8, 9] (by decide) rfl
  have hFc := va_free (wc := [(v0, .inr (4, [.ref p0, .ref e0, .int tm, .int cbf])), (p0, .inr (3, [.int (nI pB), .int (nI pS), .int (nI pG), .int (nI pE), .int (nI pC), .int (nI pO)])), (e0, .inr (2, [.ref e1, .int (nI en)])), (e1, .inl (cy 0, 70, .inl ef))]) hD hS hA [7, 2, 8, 9] rfl
  refine va_calli (va_runV (As := [.int (nI d)]) (rest := []) ⟨hx, hb, hml, hown, hts⟩ (c_X3_endRow l D cy s.heap.size v0 p0 e0 e1 tm cbf pB pS pG pE pC pO ef en eg d hen heg (by first | assumption | omega) (by first | assumption | omega)) (cwV 1 hts gX5_endOfRow_X3_endRow rfl rfl rfl (by decide +kernel) ⟨Nat.le_of_ble_eq_true rfl, Nat.le_of_ble_eq_true rfl⟩) (pv_V (ci := 4) (q := (RX3, TX3, 4)) hkk hPc hDc rfl rfl rfl) rfl rfl hl.1 rfl (lv_room (Nat.le_of_ble_eq_true rfl)) dX5_endOfRow_5 ⟨Nat.le_of_ble_eq_true rfl, Nat.le_of_ble_eq_true rfl⟩) hS (fun q _ h => hFc q h) hFc (fun r_5 u t H1 locs ht hvm hw hB hz1 hk1 hS => ?_)
  obtain ⟨hP1, hD1⟩ := hB
  rw [ht] at hP1
  try dsimp only at hw hP1 hD1
  obtain ⟨hP, hD⟩ := va_join (wr := [(h0, .inr (6, [.ref s0, .ref v0, .ref i0, .long tt, .long tg])), (s0, .inr (5, [.ref p0, .ref d0, .ref r0, .int (nI ct), .int (nI fp), .int fk, .int (nI sk)])), (d0, .inr (2, [.ref d1, .int (nI n)])), (d1, .inl (cy 0, 70, .inl f)), (r0, .inr (2, [.ref r1, .int (nI rn)])), (r1, .inl (cy 0, 70, .inl rf)), (i0, .inr (1, [.ref i1, .int (nI w), .int gr, .int bt, .int jo])), (i1, .inl (cy 1, 10, .inl hf))]) (w1 := [(v0, .inr (4, [.ref p0, .ref e0, .int 0, .int (if rc_err pB pS pG pE pC pO d en eg tm = 0 then nI (be eg 0 pO) else cbf)])), (p0, .inr (3, [.int (nI pB), .int (nI pS), .int (nI pG), .int (nI pE), .int (nI pC), .int (nI pO)])), (e0, .inr (2, [.ref e1, .int (nI 0)])), (e1, .inl (cy 0, 70, .inl ef))]) hP hD [7, 2, 8, 9] [0, 1, 3, 4, 5, 6, 10, 11] rfl rfl (by decide) (by decide) hk1 hFc hP1 hD1
  clear hPc hDc hFc hP1 hD1 hz1 hk1
  generalize H1 = H at hP hS ⊢
  have hP : va_P D vwCl [(h0, .inr (6, [.ref s0, .ref v0, .ref i0, .long tt, .long tg])), (s0, .inr (5, [.ref p0, .ref d0, .ref r0, .int (nI ct), .int (nI fp), .int fk, .int (nI sk)])), (d0, .inr (2, [.ref d1, .int (nI n)])), (d1, .inl (cy 0, 70, .inl f)), (r0, .inr (2, [.ref r1, .int (nI rn)])), (r1, .inl (cy 0, 70, .inl rf)), (i0, .inr (1, [.ref i1, .int (nI w), .int gr, .int bt, .int jo])), (i1, .inl (cy 1, 10, .inl hf)), (v0, .inr (4, [.ref p0, .ref e0, .int 0, .int (if rc_err pB pS pG pE pC pO d en eg tm = 0 then nI (be eg 0 pO) else cbf)])), (p0, .inr (3, [.int (nI pB), .int (nI pS), .int (nI pG), .int (nI pE), .int (nI pC), .int (nI pO)])), (e0, .inr (2, [.ref e1, .int (nI 0)])), (e1, .inl (cy 0, 70, .inl ef))] H := hP
  have hD : va_D A [(h0, .inr (6, [.ref s0, .ref v0, .ref i0, .long tt, .long tg])), (s0, .inr (5, [.ref p0, .ref d0, .ref r0, .int (nI ct), .int (nI fp), .int fk, .int (nI sk)])), (d0, .inr (2, [.ref d1, .int (nI n)])), (d1, .inl (cy 0, 70, .inl f)), (r0, .inr (2, [.ref r1, .int (nI rn)])), (r1, .inl (cy 0, 70, .inl rf)), (i0, .inr (1, [.ref i1, .int (nI w), .int gr, .int bt, .int jo])), (i1, .inl (cy 1, 10, .inl hf)), (v0, .inr (4, [.ref p0, .ref e0, .int 0, .int (if rc_err pB pS pG pE pC pO d en eg tm = 0 then nI (be eg 0 pO) else cbf)])), (p0, .inr (3, [.int (nI pB), .int (nI pS), .int (nI pG), .int (nI pE), .int (nI pC), .int (nI pO)])), (e0, .inr (2, [.ref e1, .int (nI 0)])), (e1, .inl (cy 0, 70, .inl ef))] := hD
  obtain rfl := hw
  refine lv_topi (fun x_5 ex_5 => ?_)
  refine lv_istore_n (lv' := [(2, .int x_5), (0, .ref h0), (1, .int (nI d))]) hx hb dX5_endOfRow_8 rfl hl (by decide) rfl (fun ls hl => ?_)
  refine lv_aload_n hx hb dX5_endOfRow_9 rfl (lv_at hl 1 rfl) ?_
  refine va_get (D := D) (ci := 6) (v := .ref i0) (C := RX5) (T := TX5) (N := 5) hx hb hts iw_X5_endOfRow_X5 hown hK hP 0 rfl rfl 2 (by decide) (hts _ lk_X5_endOfRow_f34) (fun _ h9 => h9) rfl dX5_endOfRow_10 ?_
  refine lv_iload_n hx hb dX5_endOfRow_13 rfl (lv_at hl 0 rfl) ?_
  have hPc := hP.sub (ws' := [(i0, .inr (1, [.ref i1, .int (nI w), .int gr, .int bt, .int jo])), (i1, .inl (cy 1, 10, .inl hf))]) [6, 7] rfl
  have hDc := hD.sub (ws' := [(i0, .inr (1, [.ref i1, .int (nI w), .int gr, .int bt, .int jo])), (i1, .inl (cy 1, 10, .inl hf))]) [6, 7] (by decide) rfl
  have hFc := va_free (wc := [(i0, .inr (1, [.ref i1, .int (nI w), .int gr, .int bt, .int jo])), (i1, .inl (cy 1, 10, .inl hf))]) hD hS hA [6, 7] rfl
  refine va_callv (va_runV (As := [.int x_5]) (rest := []) ⟨hx, hb, hml, hown, hts⟩ (c_X0_add l D cy H.size i0 i1 hf w gr bt jo x_5 (by first | assumption | omega)) (cwV 1 hts gX5_endOfRow_X0_add rfl rfl rfl (by decide +kernel) ⟨Nat.le_of_ble_eq_true rfl, Nat.le_of_ble_eq_true rfl⟩) (pv_V (ci := 1) (q := (RX0, TX0, 5)) hkk hPc hDc rfl rfl rfl) rfl rfl hl.1 rfl (lv_room (Nat.le_of_ble_eq_true rfl)) dX5_endOfRow_14 ⟨Nat.le_of_ble_eq_true rfl, Nat.le_of_ble_eq_true rfl⟩) hS (fun q _ h => hFc q h) hFc (fun u t H1 locs ht hvm hw hB hz1 hk1 hS => ?_)
  obtain ⟨f2_14, rfl⟩ : ∃ z, z = u := ⟨_, rfl⟩
  obtain ⟨hP1, hD1⟩ := hB
  rw [ht] at hP1
  try dsimp only at hw hP1 hD1
  obtain ⟨hP, hD⟩ := va_join (wr := [(h0, .inr (6, [.ref s0, .ref v0, .ref i0, .long tt, .long tg])), (s0, .inr (5, [.ref p0, .ref d0, .ref r0, .int (nI ct), .int (nI fp), .int fk, .int (nI sk)])), (d0, .inr (2, [.ref d1, .int (nI n)])), (d1, .inl (cy 0, 70, .inl f)), (r0, .inr (2, [.ref r1, .int (nI rn)])), (r1, .inl (cy 0, 70, .inl rf)), (v0, .inr (4, [.ref p0, .ref e0, .int 0, .int (if rc_err pB pS pG pE pC pO d en eg tm = 0 then nI (be eg 0 pO) else cbf)])), (p0, .inr (3, [.int (nI pB), .int (nI pS), .int (nI pG), .int (nI pE), .int (nI pC), .int (nI pO)])), (e0, .inr (2, [.ref e1, .int (nI 0)])), (e1, .inl (cy 0, 70, .inl ef))]) (w1 := [(i0, .inr (1, [.ref i1, .int (nI (min (w + 1) 10)), .int (if sd x_5 = 1 then gr + 1 else gr), .int (bt ||| (1 <<< (x_5 &&& 31))), .int (hi_j f2_14 (min (w + 1) 10) (if jo = 0 then 1 else jo))])), (i1, .inl (cy 1, 10, .inl f2_14))]) hP hD [6, 7] [0, 1, 2, 3, 4, 5, 8, 9, 10, 11] rfl rfl (by decide) (by decide) hk1 hFc hP1 hD1
  clear hPc hDc hFc hP1 hD1 hz1 hk1
  generalize H1 = H at hP hS ⊢
  have hP : va_P D vwCl [(h0, .inr (6, [.ref s0, .ref v0, .ref i0, .long tt, .long tg])), (s0, .inr (5, [.ref p0, .ref d0, .ref r0, .int (nI ct), .int (nI fp), .int fk, .int (nI sk)])), (d0, .inr (2, [.ref d1, .int (nI n)])), (d1, .inl (cy 0, 70, .inl f)), (r0, .inr (2, [.ref r1, .int (nI rn)])), (r1, .inl (cy 0, 70, .inl rf)), (v0, .inr (4, [.ref p0, .ref e0, .int 0, .int (if rc_err pB pS pG pE pC pO d en eg tm = 0 then nI (be eg 0 pO) else cbf)])), (p0, .inr (3, [.int (nI pB), .int (nI pS), .int (nI pG), .int (nI pE), .int (nI pC), .int (nI pO)])), (e0, .inr (2, [.ref e1, .int (nI 0)])), (e1, .inl (cy 0, 70, .inl ef)), (i0, .inr (1, [.ref i1, .int (nI (min (w + 1) 10)), .int (if sd x_5 = 1 then gr + 1 else gr), .int (bt ||| (1 <<< (x_5 &&& 31))), .int (hi_j f2_14 (min (w + 1) 10) (if jo = 0 then 1 else jo))])), (i1, .inl (cy 1, 10, .inl f2_14))] H := hP
  have hD : va_D A [(h0, .inr (6, [.ref s0, .ref v0, .ref i0, .long tt, .long tg])), (s0, .inr (5, [.ref p0, .ref d0, .ref r0, .int (nI ct), .int (nI fp), .int fk, .int (nI sk)])), (d0, .inr (2, [.ref d1, .int (nI n)])), (d1, .inl (cy 0, 70, .inl f)), (r0, .inr (2, [.ref r1, .int (nI rn)])), (r1, .inl (cy 0, 70, .inl rf)), (v0, .inr (4, [.ref p0, .ref e0, .int 0, .int (if rc_err pB pS pG pE pC pO d en eg tm = 0 then nI (be eg 0 pO) else cbf)])), (p0, .inr (3, [.int (nI pB), .int (nI pS), .int (nI pG), .int (nI pE), .int (nI pC), .int (nI pO)])), (e0, .inr (2, [.ref e1, .int (nI 0)])), (e1, .inl (cy 0, 70, .inl ef)), (i0, .inr (1, [.ref i1, .int (nI (min (w + 1) 10)), .int (if sd x_5 = 1 then gr + 1 else gr), .int (bt ||| (1 <<< (x_5 &&& 31))), .int (hi_j f2_14 (min (w + 1) 10) (if jo = 0 then 1 else jo))])), (i1, .inl (cy 1, 10, .inl f2_14))] := hD
  have hw_14 := hw
  have cut_33 : ∀ (tg3 : Int64) (H : Heap) (locs : List Loc), tg3 = (if sd x_5 = 1 then tt else tg) → va_P D vwCl [(h0, .inr (6, [.ref s0, .ref v0, .ref i0, .long tt, .long tg3])), (s0, .inr (5, [.ref p0, .ref d0, .ref r0, .int (nI ct), .int (nI fp), .int fk, .int (nI sk)])), (d0, .inr (2, [.ref d1, .int (nI n)])), (d1, .inl (cy 0, 70, .inl f)), (r0, .inr (2, [.ref r1, .int (nI rn)])), (r1, .inl (cy 0, 70, .inl rf)), (v0, .inr (4, [.ref p0, .ref e0, .int 0, .int (if rc_err pB pS pG pE pC pO d en eg tm = 0 then nI (be eg 0 pO) else cbf)])), (p0, .inr (3, [.int (nI pB), .int (nI pS), .int (nI pG), .int (nI pE), .int (nI pC), .int (nI pO)])), (e0, .inr (2, [.ref e1, .int (nI 0)])), (e1, .inl (cy 0, 70, .inl ef)), (i0, .inr (1, [.ref i1, .int (nI (min (w + 1) 10)), .int (if sd x_5 = 1 then gr + 1 else gr), .int (bt ||| (1 <<< (x_5 &&& 31))), .int (hi_j f2_14 (min (w + 1) 10) (if jo = 0 then 1 else jo))])), (i1, .inl (cy 1, 10, .inl f2_14))] H → va_D A [(h0, .inr (6, [.ref s0, .ref v0, .ref i0, .long tt, .long tg3])), (s0, .inr (5, [.ref p0, .ref d0, .ref r0, .int (nI ct), .int (nI fp), .int fk, .int (nI sk)])), (d0, .inr (2, [.ref d1, .int (nI n)])), (d1, .inl (cy 0, 70, .inl f)), (r0, .inr (2, [.ref r1, .int (nI rn)])), (r1, .inl (cy 0, 70, .inl rf)), (v0, .inr (4, [.ref p0, .ref e0, .int 0, .int (if rc_err pB pS pG pE pC pO d en eg tm = 0 then nI (be eg 0 pO) else cbf)])), (p0, .inr (3, [.int (nI pB), .int (nI pS), .int (nI pG), .int (nI pE), .int (nI pC), .int (nI pO)])), (e0, .inr (2, [.ref e1, .int (nI 0)])), (e1, .inl (cy 0, 70, .inl ef)), (i0, .inr (1, [.ref i1, .int (nI (min (w + 1) 10)), .int (if sd x_5 = 1 then gr + 1 else gr), .int (bt ||| (1 <<< (x_5 &&& 31))), .int (hi_j f2_14 (min (w + 1) 10) (if jo = 0 then 1 else jo))])), (i1, .inl (cy 1, 10, .inl f2_14))] → va_S A s.heap H locs → ∀ (ls : Array Slot), lv_has ls 3 [(0, .ref h0), (1, .int (nI d)), (2, .int x_5)] → W p l e (headSpec wsX5_endOfRow ({ frames := 6, cells := 0, slots := 0, locals := 131 } : Room)).room s m [.ref h0, .int (nI d)].toArray below meth c H locs 0 0 (MQ below (va_Qi (fun (r : Int32) (u : (Int32) × (Nat → Int32) × (Nat) × (Int32) × (Int32) × (Int32) × (Int64)) => (eor pB pS pG pE pC pO d en eg tm cbf hf w gr bt jo tt tg r u.1 u.2.1 u.2.2.1 u.2.2.2.1 u.2.2.2.2.1 u.2.2.2.2.2.1 u.2.2.2.2.2.2)) (fun u t => va_P D vwCl [(h0, .inr (6, [.ref s0, .ref v0, .ref i0, .long tt, .long u.2.2.2.2.2.2])), (s0, .inr (5, [.ref p0, .ref d0, .ref r0, .int (nI ct), .int (nI fp), .int fk, .int (nI sk)])), (p0, .inr (3, [.int (nI pB), .int (nI pS), .int (nI pG), .int (nI pE), .int (nI pC), .int (nI pO)])), (d0, .inr (2, [.ref d1, .int (nI n)])), (d1, .inl (cy 0, 70, .inl f)), (r0, .inr (2, [.ref r1, .int (nI rn)])), (r1, .inl (cy 0, 70, .inl rf)), (v0, .inr (4, [.ref p0, .ref e0, .int 0, .int u.1])), (e0, .inr (2, [.ref e1, .int (nI 0)])), (e1, .inl (cy 0, 70, .inl ef)), (i0, .inr (1, [.ref i1, .int (nI u.2.2.1), .int u.2.2.2.1, .int u.2.2.2.2.1, .int u.2.2.2.2.2.1])), (i1, .inl (cy 1, 10, .inl u.2.1))] t.heap ∧ va_D A [(h0, .inr (6, [.ref s0, .ref v0, .ref i0, .long tt, .long u.2.2.2.2.2.2])), (s0, .inr (5, [.ref p0, .ref d0, .ref r0, .int (nI ct), .int (nI fp), .int fk, .int (nI sk)])), (p0, .inr (3, [.int (nI pB), .int (nI pS), .int (nI pG), .int (nI pE), .int (nI pC), .int (nI pO)])), (d0, .inr (2, [.ref d1, .int (nI n)])), (d1, .inl (cy 0, 70, .inl f)), (r0, .inr (2, [.ref r1, .int (nI rn)])), (r1, .inl (cy 0, 70, .inl rf)), (v0, .inr (4, [.ref p0, .ref e0, .int 0, .int u.1])), (e0, .inr (2, [.ref e1, .int (nI 0)])), (e1, .inl (cy 0, 70, .inl ef)), (i0, .inr (1, [.ref i1, .int (nI u.2.2.1), .int u.2.2.2.1, .int u.2.2.2.2.1, .int u.2.2.2.2.2.1])), (i1, .inl (cy 1, 10, .inl u.2.1))]) A) [.ref h0, .int (nI d)].toArray s 0 0 A) (F0 m 33 ls []) := by
    intro tg3 H locs htg hP hD hS ls hl
    refine lv_iload_n hx hb dX5_endOfRow_33 rfl (lv_at hl 2 rfl) ?_
    have hP9 := hP.sub (ws' := [(h0, .inr (6, [.ref s0, .ref v0, .ref i0, .long tt, .long tg3])), (s0, .inr (5, [.ref p0, .ref d0, .ref r0, .int (nI ct), .int (nI fp), .int fk, .int (nI sk)])), (p0, .inr (3, [.int (nI pB), .int (nI pS), .int (nI pG), .int (nI pE), .int (nI pC), .int (nI pO)])), (d0, .inr (2, [.ref d1, .int (nI n)])), (d1, .inl (cy 0, 70, .inl f)), (r0, .inr (2, [.ref r1, .int (nI rn)])), (r1, .inl (cy 0, 70, .inl rf)), (v0, .inr (4, [.ref p0, .ref e0, .int 0, .int (if rc_err pB pS pG pE pC pO d en eg tm = 0 then nI (be eg 0 pO) else cbf)])), (e0, .inr (2, [.ref e1, .int (nI 0)])), (e1, .inl (cy 0, 70, .inl ef)), (i0, .inr (1, [.ref i1, .int (nI (min (w + 1) 10)), .int (if sd x_5 = 1 then gr + 1 else gr), .int (bt ||| (1 <<< (x_5 &&& 31))), .int (hi_j f2_14 (min (w + 1) 10) (if jo = 0 then 1 else jo))])), (i1, .inl (cy 1, 10, .inl f2_14))]) [0, 1, 7, 2, 3, 4, 5, 6, 8, 9, 10, 11] rfl
    have hD9 := hD.sub (ws' := [(h0, .inr (6, [.ref s0, .ref v0, .ref i0, .long tt, .long tg3])), (s0, .inr (5, [.ref p0, .ref d0, .ref r0, .int (nI ct), .int (nI fp), .int fk, .int (nI sk)])), (p0, .inr (3, [.int (nI pB), .int (nI pS), .int (nI pG), .int (nI pE), .int (nI pC), .int (nI pO)])), (d0, .inr (2, [.ref d1, .int (nI n)])), (d1, .inl (cy 0, 70, .inl f)), (r0, .inr (2, [.ref r1, .int (nI rn)])), (r1, .inl (cy 0, 70, .inl rf)), (v0, .inr (4, [.ref p0, .ref e0, .int 0, .int (if rc_err pB pS pG pE pC pO d en eg tm = 0 then nI (be eg 0 pO) else cbf)])), (e0, .inr (2, [.ref e1, .int (nI 0)])), (e1, .inl (cy 0, 70, .inl ef)), (i0, .inr (1, [.ref i1, .int (nI (min (w + 1) 10)), .int (if sd x_5 = 1 then gr + 1 else gr), .int (bt ||| (1 <<< (x_5 &&& 31))), .int (hi_j f2_14 (min (w + 1) 10) (if jo = 0 then 1 else jo))])), (i1, .inl (cy 1, 10, .inl f2_14))]) [0, 1, 7, 2, 3, 4, 5, 6, 8, 9, 10, 11] (by decide) rfl
    exact W.iret (v := x_5) hx hb hr (fun t ht hW => ⟨⟨x_5, (if rc_err pB pS pG pE pC pO d en eg tm = 0 then nI (be eg 0 pO) else cbf, f2_14, min (w + 1) 10, if sd x_5 = 1 then gr + 1 else gr, bt ||| (1 <<< (x_5 &&& 31)), hi_j f2_14 (min (w + 1) 10) (if jo = 0 then 1 else jo), tg3), rfl, ⟨ex_5, rfl, hw_14, rfl, rfl, rfl, rfl, htg⟩, by rw [ht]; exact hP9, hD9⟩, hS.F ht⟩) hS.2.2 dX5_endOfRow_34
  refine lv_iload_n hx hb dX5_endOfRow_17 rfl (lv_at hl 0 rfl) ?_
  have hPc := hP.sub (ws' := []) [] rfl
  have hDc := hD.sub (ws' := []) [] (by decide) rfl
  have hFc := va_free (wc := []) hD hS hA [] rfl
  refine va_calli (va_runS (As := [.int x_5]) (rest := []) ⟨hx, hb, hml, hown, hts⟩ (c_X5_sideOf l D cy H.size x_5 ) (va_cwS 1 hts gX5_endOfRow_X5_sideOf rfl rfl rfl (by decide +kernel) ⟨Nat.le_of_ble_eq_true rfl, Nat.le_of_ble_eq_true rfl⟩) (pv_S hkk hPc hDc rfl) rfl rfl hl.1 rfl (lv_room (Nat.le_of_ble_eq_true rfl)) dX5_endOfRow_18 ⟨Nat.le_of_ble_eq_true rfl, Nat.le_of_ble_eq_true rfl⟩) hS (fun q _ h => hFc q h) hFc (fun r_18 u t H1 locs ht hvm hw hB hz1 hk1 hS => ?_)
  obtain ⟨hP1, hD1⟩ := hB
  rw [ht] at hP1
  try dsimp only at hw hP1 hD1
  obtain ⟨hP, hD⟩ := va_join (wr := [(h0, .inr (6, [.ref s0, .ref v0, .ref i0, .long tt, .long tg])), (s0, .inr (5, [.ref p0, .ref d0, .ref r0, .int (nI ct), .int (nI fp), .int fk, .int (nI sk)])), (d0, .inr (2, [.ref d1, .int (nI n)])), (d1, .inl (cy 0, 70, .inl f)), (r0, .inr (2, [.ref r1, .int (nI rn)])), (r1, .inl (cy 0, 70, .inl rf)), (v0, .inr (4, [.ref p0, .ref e0, .int 0, .int (if rc_err pB pS pG pE pC pO d en eg tm = 0 then nI (be eg 0 pO) else cbf)])), (p0, .inr (3, [.int (nI pB), .int (nI pS), .int (nI pG), .int (nI pE), .int (nI pC), .int (nI pO)])), (e0, .inr (2, [.ref e1, .int (nI 0)])), (e1, .inl (cy 0, 70, .inl ef)), (i0, .inr (1, [.ref i1, .int (nI (min (w + 1) 10)), .int (if sd x_5 = 1 then gr + 1 else gr), .int (bt ||| (1 <<< (x_5 &&& 31))), .int (hi_j f2_14 (min (w + 1) 10) (if jo = 0 then 1 else jo))])), (i1, .inl (cy 1, 10, .inl f2_14))]) (w1 := []) hP hD [] [0, 1, 2, 3, 4, 5, 6, 7, 8, 9, 10, 11] rfl rfl (by decide) (by decide) hk1 hFc hP1 hD1
  clear hPc hDc hFc hP1 hD1 hz1 hk1
  generalize H1 = H at hP hS ⊢
  have hP : va_P D vwCl [(h0, .inr (6, [.ref s0, .ref v0, .ref i0, .long tt, .long tg])), (s0, .inr (5, [.ref p0, .ref d0, .ref r0, .int (nI ct), .int (nI fp), .int fk, .int (nI sk)])), (d0, .inr (2, [.ref d1, .int (nI n)])), (d1, .inl (cy 0, 70, .inl f)), (r0, .inr (2, [.ref r1, .int (nI rn)])), (r1, .inl (cy 0, 70, .inl rf)), (v0, .inr (4, [.ref p0, .ref e0, .int 0, .int (if rc_err pB pS pG pE pC pO d en eg tm = 0 then nI (be eg 0 pO) else cbf)])), (p0, .inr (3, [.int (nI pB), .int (nI pS), .int (nI pG), .int (nI pE), .int (nI pC), .int (nI pO)])), (e0, .inr (2, [.ref e1, .int (nI 0)])), (e1, .inl (cy 0, 70, .inl ef)), (i0, .inr (1, [.ref i1, .int (nI (min (w + 1) 10)), .int (if sd x_5 = 1 then gr + 1 else gr), .int (bt ||| (1 <<< (x_5 &&& 31))), .int (hi_j f2_14 (min (w + 1) 10) (if jo = 0 then 1 else jo))])), (i1, .inl (cy 1, 10, .inl f2_14))] H := hP
  have hD : va_D A [(h0, .inr (6, [.ref s0, .ref v0, .ref i0, .long tt, .long tg])), (s0, .inr (5, [.ref p0, .ref d0, .ref r0, .int (nI ct), .int (nI fp), .int fk, .int (nI sk)])), (d0, .inr (2, [.ref d1, .int (nI n)])), (d1, .inl (cy 0, 70, .inl f)), (r0, .inr (2, [.ref r1, .int (nI rn)])), (r1, .inl (cy 0, 70, .inl rf)), (v0, .inr (4, [.ref p0, .ref e0, .int 0, .int (if rc_err pB pS pG pE pC pO d en eg tm = 0 then nI (be eg 0 pO) else cbf)])), (p0, .inr (3, [.int (nI pB), .int (nI pS), .int (nI pG), .int (nI pE), .int (nI pC), .int (nI pO)])), (e0, .inr (2, [.ref e1, .int (nI 0)])), (e1, .inl (cy 0, 70, .inl ef)), (i0, .inr (1, [.ref i1, .int (nI (min (w + 1) 10)), .int (if sd x_5 = 1 then gr + 1 else gr), .int (bt ||| (1 <<< (x_5 &&& 31))), .int (hi_j f2_14 (min (w + 1) 10) (if jo = 0 then 1 else jo))])), (i1, .inl (cy 1, 10, .inl f2_14))] := hD
  obtain rfl := hw
  refine lv_iconst (v := 1) hx hb dX5_endOfRow_21 (by decide) ?_
  refine lv_icmp_ne (tgt := 33) hx hb dX5_endOfRow_22 (by decide) (fun c_22 => ?_) (fun c_22 => ?_)
  · exact cut_33 tg _ _ (if_neg c_22).symm hP hD hS _ (lv_sub hl [1, 2, 0] rfl)
  · refine lv_aload_n hx hb dX5_endOfRow_25 rfl (lv_at hl 1 rfl) ?_
    refine lv_aload_n hx hb dX5_endOfRow_26 rfl (lv_at hl 1 rfl) ?_
    refine va_get (D := D) (ci := 6) (v := .long tt) (C := RX5) (T := TX5) (N := 5) hx hb hts iw_X5_endOfRow_X5 hown hK hP 0 rfl rfl 3 (by decide) (hts _ lk_X5_endOfRow_f94) (fun _ h9 => h9) rfl dX5_endOfRow_27 ?_
    refine va_put (D := D) (ci := 6) (v := .long tt) (ty := .long) (C := RX5) (T := TX5) (N := 5) hx hb hts iw_X5_endOfRow_X5 tyX5 tyX5_ok nmX5 hown hK hP hD hS 0 rfl rfl 4 (by decide) (hts _ lk_X5_endOfRow_f98) (fun _ h9 => h9) rfl (by decide +kernel) rfl rfl (Nat.le_of_ble_eq_true rfl) dX5_endOfRow_30 (fun H locs hP hD hS => ?_)
    have hP : va_P D vwCl [(h0, .inr (6, [.ref s0, .ref v0, .ref i0, .long tt, .long tt])), (s0, .inr (5, [.ref p0, .ref d0, .ref r0, .int (nI ct), .int (nI fp), .int fk, .int (nI sk)])), (d0, .inr (2, [.ref d1, .int (nI n)])), (d1, .inl (cy 0, 70, .inl f)), (r0, .inr (2, [.ref r1, .int (nI rn)])), (r1, .inl (cy 0, 70, .inl rf)), (v0, .inr (4, [.ref p0, .ref e0, .int 0, .int (if rc_err pB pS pG pE pC pO d en eg tm = 0 then nI (be eg 0 pO) else cbf)])), (p0, .inr (3, [.int (nI pB), .int (nI pS), .int (nI pG), .int (nI pE), .int (nI pC), .int (nI pO)])), (e0, .inr (2, [.ref e1, .int (nI 0)])), (e1, .inl (cy 0, 70, .inl ef)), (i0, .inr (1, [.ref i1, .int (nI (min (w + 1) 10)), .int (if sd x_5 = 1 then gr + 1 else gr), .int (bt ||| (1 <<< (x_5 &&& 31))), .int (hi_j f2_14 (min (w + 1) 10) (if jo = 0 then 1 else jo))])), (i1, .inl (cy 1, 10, .inl f2_14))] H := hP
    have hD : va_D A [(h0, .inr (6, [.ref s0, .ref v0, .ref i0, .long tt, .long tt])), (s0, .inr (5, [.ref p0, .ref d0, .ref r0, .int (nI ct), .int (nI fp), .int fk, .int (nI sk)])), (d0, .inr (2, [.ref d1, .int (nI n)])), (d1, .inl (cy 0, 70, .inl f)), (r0, .inr (2, [.ref r1, .int (nI rn)])), (r1, .inl (cy 0, 70, .inl rf)), (v0, .inr (4, [.ref p0, .ref e0, .int 0, .int (if rc_err pB pS pG pE pC pO d en eg tm = 0 then nI (be eg 0 pO) else cbf)])), (p0, .inr (3, [.int (nI pB), .int (nI pS), .int (nI pG), .int (nI pE), .int (nI pC), .int (nI pO)])), (e0, .inr (2, [.ref e1, .int (nI 0)])), (e1, .inl (cy 0, 70, .inl ef)), (i0, .inr (1, [.ref i1, .int (nI (min (w + 1) 10)), .int (if sd x_5 = 1 then gr + 1 else gr), .int (bt ||| (1 <<< (x_5 &&& 31))), .int (hi_j f2_14 (min (w + 1) 10) (if jo = 0 then 1 else jo))])), (i1, .inl (cy 1, 10, .inl f2_14))] := hD
    exact cut_33 tt _ _ (if_pos c_22).symm hP hD hS _ (lv_sub hl [1, 2, 0] rfl)

theorem iw_X5_check_X5 : ∀ w ∈ wsX50, w ∈ wsX5_check := by decide +kernel
theorem lk_X5_check_f27 : (.fieldLink RX5 27 "DataGuards" "receiver" "LDataGuards$Receiver;" : Cond) ∈ wsX5_check := by decide +kernel
set_option maxHeartbeats 4000000 in
set_option maxRecDepth 100000 in
theorem c_X5_check (l : Launch) (D : va_G) (cy : Nat → ClassId) (sz : Nat) (h0 : Nat) (s0 : Nat) (v0 : Nat) (i0 : Nat) (p0 : Nat) (d0 : Nat) (d1 : Nat) (r0 : Nat) (r1 : Nat) (e0 : Nat) (e1 : Nat) (i1 : Nat) (tt : Int64) (tg : Int64) (ct : Nat) (fp : Nat) (fk : Int32) (sk : Nat) (pB : Nat) (pS : Nat) (pG : Nat) (pE : Nat) (pC : Nat) (pO : Nat) (f : Nat → Int32) (n : Nat) (rf : Nat → Int32) (rn : Nat) (tm : Int32) (cbf : Int32) (ef : Nat → Int32) (en : Nat) (hf : Nat → Int32) (w : Nat) (gr : Int32) (bt : Int32) (jo : Int32) (eg : Nat → Nat) (i : Int32) (x : Int32) (la : Int32) (hpv : pvd pB pS pG pE pC pO) (hen : en ≤ 70) (heg : oc_is ef en eg) (hw9 : w ≤ 10) : Met l yX5_check wsX5_check ({ frames := 7, cells := 0, slots := 0, locals := 153 } : Room) (pre1 D cy [.ref h0, .int i, .int x, .int la] [(h0, .inr (6, [.ref s0, .ref v0, .ref i0, .long tt, .long tg])), (s0, .inr (5, [.ref p0, .ref d0, .ref r0, .int (nI ct), .int (nI fp), .int fk, .int (nI sk)])), (p0, .inr (3, [.int (nI pB), .int (nI pS), .int (nI pG), .int (nI pE), .int (nI pC), .int (nI pO)])), (d0, .inr (2, [.ref d1, .int (nI n)])), (d1, .inl (cy 0, 70, .inl f)), (r0, .inr (2, [.ref r1, .int (nI rn)])), (r1, .inl (cy 0, 70, .inl rf)), (v0, .inr (4, [.ref p0, .ref e0, .int tm, .int cbf])), (e0, .inr (2, [.ref e1, .int (nI en)])), (e1, .inl (cy 0, 70, .inl ef)), (i0, .inr (1, [.ref i1, .int (nI w), .int gr, .int bt, .int jo])), (i1, .inl (cy 1, 10, .inl hf))] sz) (va_Qi (fun (r : Int32) (u : (Nat → Int32) × (Nat) × (Int32) × (Int32) × (Nat → Int32) × (Nat) × (Int32) × (Int32) × (Int32) × (Int64)) => (dchk pB pS pG pE pC pO ef en eg tm cbf hf w gr bt jo tt tg i x la r u.1 u.2.1 u.2.2.1 u.2.2.2.1 u.2.2.2.2.1 u.2.2.2.2.2.1 u.2.2.2.2.2.2.1 u.2.2.2.2.2.2.2.1 u.2.2.2.2.2.2.2.2.1 u.2.2.2.2.2.2.2.2.2)) (fun u t => va_P D vwCl [(h0, .inr (6, [.ref s0, .ref v0, .ref i0, .long tt, .long u.2.2.2.2.2.2.2.2.2])), (s0, .inr (5, [.ref p0, .ref d0, .ref r0, .int (nI ct), .int (nI fp), .int fk, .int (nI sk)])), (p0, .inr (3, [.int (nI pB), .int (nI pS), .int (nI pG), .int (nI pE), .int (nI pC), .int (nI pO)])), (d0, .inr (2, [.ref d1, .int (nI n)])), (d1, .inl (cy 0, 70, .inl f)), (r0, .inr (2, [.ref r1, .int (nI rn)])), (r1, .inl (cy 0, 70, .inl rf)), (v0, .inr (4, [.ref p0, .ref e0, .int u.2.2.1, .int u.2.2.2.1])), (e0, .inr (2, [.ref e1, .int (nI u.2.1)])), (e1, .inl (cy 0, 70, .inl u.1)), (i0, .inr (1, [.ref i1, .int (nI u.2.2.2.2.2.1), .int u.2.2.2.2.2.2.1, .int u.2.2.2.2.2.2.2.1, .int u.2.2.2.2.2.2.2.2.1])), (i1, .inl (cy 1, 10, .inl u.2.2.2.2.1))] t.heap ∧ va_D (va_A [(h0, .inr (6, [.ref s0, .ref v0, .ref i0, .long tt, .long tg])), (s0, .inr (5, [.ref p0, .ref d0, .ref r0, .int (nI ct), .int (nI fp), .int fk, .int (nI sk)])), (p0, .inr (3, [.int (nI pB), .int (nI pS), .int (nI pG), .int (nI pE), .int (nI pC), .int (nI pO)])), (d0, .inr (2, [.ref d1, .int (nI n)])), (d1, .inl (cy 0, 70, .inl f)), (r0, .inr (2, [.ref r1, .int (nI rn)])), (r1, .inl (cy 0, 70, .inl rf)), (v0, .inr (4, [.ref p0, .ref e0, .int tm, .int cbf])), (e0, .inr (2, [.ref e1, .int (nI en)])), (e1, .inl (cy 0, 70, .inl ef)), (i0, .inr (1, [.ref i1, .int (nI w), .int gr, .int bt, .int jo])), (i1, .inl (cy 1, 10, .inl hf))] sz) [(h0, .inr (6, [.ref s0, .ref v0, .ref i0, .long tt, .long u.2.2.2.2.2.2.2.2.2])), (s0, .inr (5, [.ref p0, .ref d0, .ref r0, .int (nI ct), .int (nI fp), .int fk, .int (nI sk)])), (p0, .inr (3, [.int (nI pB), .int (nI pS), .int (nI pG), .int (nI pE), .int (nI pC), .int (nI pO)])), (d0, .inr (2, [.ref d1, .int (nI n)])), (d1, .inl (cy 0, 70, .inl f)), (r0, .inr (2, [.ref r1, .int (nI rn)])), (r1, .inl (cy 0, 70, .inl rf)), (v0, .inr (4, [.ref p0, .ref e0, .int u.2.2.1, .int u.2.2.2.1])), (e0, .inr (2, [.ref e1, .int (nI u.2.1)])), (e1, .inl (cy 0, 70, .inl u.1)), (i0, .inr (1, [.ref i1, .int (nI u.2.2.2.2.2.1), .int u.2.2.2.2.2.2.1, .int u.2.2.2.2.2.2.2.1, .int u.2.2.2.2.2.2.2.2.1])), (i1, .inl (cy 1, 10, .inl u.2.2.2.2.1))]) (va_A [(h0, .inr (6, [.ref s0, .ref v0, .ref i0, .long tt, .long tg])), (s0, .inr (5, [.ref p0, .ref d0, .ref r0, .int (nI ct), .int (nI fp), .int fk, .int (nI sk)])), (p0, .inr (3, [.int (nI pB), .int (nI pS), .int (nI pG), .int (nI pE), .int (nI pC), .int (nI pO)])), (d0, .inr (2, [.ref d1, .int (nI n)])), (d1, .inl (cy 0, 70, .inl f)), (r0, .inr (2, [.ref r1, .int (nI rn)])), (r1, .inl (cy 0, 70, .inl rf)), (v0, .inr (4, [.ref p0, .ref e0, .int tm, .int cbf])), (e0, .inr (2, [.ref e1, .int (nI en)])), (e1, .inl (cy 0, 70, .inl ef)), (i0, .inr (1, [.ref i1, .int (nI w), .int gr, .int bt, .int jo])), (i1, .inl (cy 1, 10, .inl hf))] sz)) 0 0 (va_A [(h0, .inr (6, [.ref s0, .ref v0, .ref i0, .long tt, .long tg])), (s0, .inr (5, [.ref p0, .ref d0, .ref r0, .int (nI ct), .int (nI fp), .int fk, .int (nI sk)])), (p0, .inr (3, [.int (nI pB), .int (nI pS), .int (nI pG), .int (nI pE), .int (nI pC), .int (nI pO)])), (d0, .inr (2, [.ref d1, .int (nI n)])), (d1, .inl (cy 0, 70, .inl f)), (r0, .inr (2, [.ref r1, .int (nI rn)])), (r1, .inl (cy 0, 70, .inl rf)), (v0, .inr (4, [.ref p0, .ref e0, .int tm, .int cbf])), (e0, .inr (2, [.ref e1, .int (nI en)])), (e1, .inl (cy 0, 70, .inl ef)), (i0, .inr (1, [.ref i1, .int (nI w), .int gr, .int bt, .int jo])), (i1, .inl (cy 1, 10, .inl hf))] sz) := by
  refine Met.ofW (cc := cX5_check) (maxL := 4) (ret := (some .int)) (by decide) rfl ?_
  intro p e s m args below meth c s₁ B hml hv
  obtain ⟨rfl, hsz, hP, hkk, hD0⟩ := hv
  have hx := B.exec
  have hb := B.bytes
  have hr := B.returns
  have hts := atoms_spec (ws := wsX5_check) B.pre
  have hown : s.vm.findClass RX5 = some m.cls := findClass_of_methodNamed B.named
  have hlocks := B.notSynchronized
  have hin : meth.name = _ := (name_of_methodNamed B.named B.method).1
  have hK := hkk.1
  subst hsz
  have hD := hD0.self (sz := s.heap.size)
  generalize hAe : va_A [(h0, .inr (6, [.ref s0, .ref v0, .ref i0, .long tt, .long tg])), (s0, .inr (5, [.ref p0, .ref d0, .ref r0, .int (nI ct), .int (nI fp), .int fk, .int (nI sk)])), (p0, .inr (3, [.int (nI pB), .int (nI pS), .int (nI pG), .int (nI pE), .int (nI pC), .int (nI pO)])), (d0, .inr (2, [.ref d1, .int (nI n)])), (d1, .inl (cy 0, 70, .inl f)), (r0, .inr (2, [.ref r1, .int (nI rn)])), (r1, .inl (cy 0, 70, .inl rf)), (v0, .inr (4, [.ref p0, .ref e0, .int tm, .int cbf])), (e0, .inr (2, [.ref e1, .int (nI en)])), (e1, .inl (cy 0, 70, .inl ef)), (i0, .inr (1, [.ref i1, .int (nI w), .int gr, .int bt, .int jo])), (i1, .inl (cy 1, 10, .inl hf))] s.heap.size = A at hD ⊢
  have hA : ∀ q : Nat, s.heap.size ≤ q → A q := fun q h => by rw [← hAe]; exact Or.inr h
  have hS : va_S A s.heap s.heap [] := va_S.rf
  have hP : va_P D vwCl [(h0, .inr (6, [.ref s0, .ref v0, .ref i0, .long tt, .long tg])), (s0, .inr (5, [.ref p0, .ref d0, .ref r0, .int (nI ct), .int (nI fp), .int fk, .int (nI sk)])), (p0, .inr (3, [.int (nI pB), .int (nI pS), .int (nI pG), .int (nI pE), .int (nI pC), .int (nI pO)])), (d0, .inr (2, [.ref d1, .int (nI n)])), (d1, .inl (cy 0, 70, .inl f)), (r0, .inr (2, [.ref r1, .int (nI rn)])), (r1, .inl (cy 0, 70, .inl rf)), (v0, .inr (4, [.ref p0, .ref e0, .int tm, .int cbf])), (e0, .inr (2, [.ref e1, .int (nI en)])), (e1, .inl (cy 0, 70, .inl ef)), (i0, .inr (1, [.ref i1, .int (nI w), .int gr, .int bt, .int jo])), (i1, .inl (cy 1, 10, .inl hf))] s.heap := hP
  have hl := lv_entry ([.ref h0, .int i, .int x, .int la]) (n := 4) (Nat.le_of_ble_eq_true rfl)
  rw [lg_entry_eq]
  generalize (lg_sl ([.ref h0, .int i, .int x, .int la]) ++ List.replicate (4 - (lg_sl ([.ref h0, .int i, .int x, .int la])).length) Slot.unset).toArray = ls at hl ⊢
  have hl : lv_has ls 4 [(0, .ref h0), (1, .int i), (2, .int x), (3, .int la)] := hl
  refine lv_iload_n hx hb dX5_check_0 rfl (lv_at hl 3 rfl) ?_
  refine lv_if_eq (tgt := 14) hx hb dX5_check_1 (by decide) (fun c_1 => ?_) (fun c_1 => ?_)
  · refine lv_aload_n hx hb dX5_check_14 rfl (lv_at hl 0 rfl) ?_
    refine va_get (D := D) (ci := 6) (v := .ref v0) (C := RX5) (T := TX5) (N := 5) hx hb hts iw_X5_check_X5 hown hK hP 0 rfl rfl 1 (by decide) (hts _ lk_X5_check_f27) (fun _ h9 => h9) rfl dX5_check_15 ?_
    refine lv_iload_n hx hb dX5_check_18 rfl (lv_at hl 2 rfl) ?_
    have hPc := hP.sub (ws' := [(v0, .inr (4, [.ref p0, .ref e0, .int tm, .int cbf])), (p0, .inr (3, [.int (nI pB), .int (nI pS), .int (nI pG), .int (nI pE), .int (nI pC), .int (nI pO)])), (e0, .inr (2, [.ref e1, .int (nI en)])), (e1, .inl (cy 0, 70, .inl ef))]) [7, 2, 8, 9] rfl
    have hDc := hD.sub (ws' := [(v0, .inr (4, [.ref p0, .ref e0, .int tm, .int cbf])), (p0, .inr (3, [.int (nI pB), .int (nI pS), .int (nI pG), .int (nI pE), .int (nI pC), .int (nI pO)])), (e0, .inr (2, [.ref e1, .int (nI en)])), (e1, .inl (cy 0, 70, .inl ef))]) [7, 2, 8, 9] (by decide) rfl
    have hFc := va_free (wc := [(v0, .inr (4, [.ref p0, .ref e0, .int tm, .int cbf])), (p0, .inr (3, [.int (nI pB), .int (nI pS), .int (nI pG), .int (nI pE), .int (nI pC), .int (nI pO)])), (e0, .inr (2, [.ref e1, .int (nI en)])), (e1, .inl (cy 0, 70, .inl ef))]) hD hS hA [7, 2, 8, 9] rfl
    refine va_callv (va_runV (As := [.int x]) (rest := []) ⟨hx, hb, hml, hown, hts⟩ (c_X3_collect l D cy s.heap.size v0 p0 e0 e1 tm cbf pB pS pG pE pC pO ef en x hen) (cwV 1 hts gX5_check_X3_collect rfl rfl rfl (by decide +kernel) ⟨Nat.le_of_ble_eq_true rfl, Nat.le_of_ble_eq_true rfl⟩) (pv_V (ci := 4) (q := (RX3, TX3, 4)) hkk hPc hDc rfl rfl rfl) rfl rfl hl.1 rfl (lv_room (Nat.le_of_ble_eq_true rfl)) dX5_check_19 ⟨Nat.le_of_ble_eq_true rfl, Nat.le_of_ble_eq_true rfl⟩) hS (fun q _ h => hFc q h) hFc (fun u t H1 locs ht hvm hw hB hz1 hk1 hS => ?_)
    obtain ⟨f2_19, n2_19, tm2_19⟩ := u
    obtain ⟨hP1, hD1⟩ := hB
    rw [ht] at hP1
    try dsimp only at hw hP1 hD1
    obtain ⟨hP, hD⟩ := va_join (wr := [(h0, .inr (6, [.ref s0, .ref v0, .ref i0, .long tt, .long tg])), (s0, .inr (5, [.ref p0, .ref d0, .ref r0, .int (nI ct), .int (nI fp), .int fk, .int (nI sk)])), (d0, .inr (2, [.ref d1, .int (nI n)])), (d1, .inl (cy 0, 70, .inl f)), (r0, .inr (2, [.ref r1, .int (nI rn)])), (r1, .inl (cy 0, 70, .inl rf)), (i0, .inr (1, [.ref i1, .int (nI w), .int gr, .int bt, .int jo])), (i1, .inl (cy 1, 10, .inl hf))]) (w1 := [(v0, .inr (4, [.ref p0, .ref e0, .int tm2_19, .int cbf])), (p0, .inr (3, [.int (nI pB), .int (nI pS), .int (nI pG), .int (nI pE), .int (nI pC), .int (nI pO)])), (e0, .inr (2, [.ref e1, .int (nI n2_19)])), (e1, .inl (cy 0, 70, .inl f2_19))]) hP hD [7, 2, 8, 9] [0, 1, 3, 4, 5, 6, 10, 11] rfl rfl (by decide) (by decide) hk1 hFc hP1 hD1
    clear hPc hDc hFc hP1 hD1 hz1 hk1
    generalize H1 = H at hP hS ⊢
    have hP : va_P D vwCl [(h0, .inr (6, [.ref s0, .ref v0, .ref i0, .long tt, .long tg])), (s0, .inr (5, [.ref p0, .ref d0, .ref r0, .int (nI ct), .int (nI fp), .int fk, .int (nI sk)])), (d0, .inr (2, [.ref d1, .int (nI n)])), (d1, .inl (cy 0, 70, .inl f)), (r0, .inr (2, [.ref r1, .int (nI rn)])), (r1, .inl (cy 0, 70, .inl rf)), (i0, .inr (1, [.ref i1, .int (nI w), .int gr, .int bt, .int jo])), (i1, .inl (cy 1, 10, .inl hf)), (v0, .inr (4, [.ref p0, .ref e0, .int tm2_19, .int cbf])), (p0, .inr (3, [.int (nI pB), .int (nI pS), .int (nI pG), .int (nI pE), .int (nI pC), .int (nI pO)])), (e0, .inr (2, [.ref e1, .int (nI n2_19)])), (e1, .inl (cy 0, 70, .inl f2_19))] H := hP
    have hD : va_D A [(h0, .inr (6, [.ref s0, .ref v0, .ref i0, .long tt, .long tg])), (s0, .inr (5, [.ref p0, .ref d0, .ref r0, .int (nI ct), .int (nI fp), .int fk, .int (nI sk)])), (d0, .inr (2, [.ref d1, .int (nI n)])), (d1, .inl (cy 0, 70, .inl f)), (r0, .inr (2, [.ref r1, .int (nI rn)])), (r1, .inl (cy 0, 70, .inl rf)), (i0, .inr (1, [.ref i1, .int (nI w), .int gr, .int bt, .int jo])), (i1, .inl (cy 1, 10, .inl hf)), (v0, .inr (4, [.ref p0, .ref e0, .int tm2_19, .int cbf])), (p0, .inr (3, [.int (nI pB), .int (nI pS), .int (nI pG), .int (nI pE), .int (nI pC), .int (nI pO)])), (e0, .inr (2, [.ref e1, .int (nI n2_19)])), (e1, .inl (cy 0, 70, .inl f2_19))] := hD
    have hw_19 := hw
    refine lv_iload_n hx hb dX5_check_22 rfl (lv_at hl 3 rfl) ?_
    refine lv_if_eq (tgt := 34) hx hb dX5_check_23 (by decide) (fun c_23 => ?_) (fun c_23 => ?_)
    · refine lv_iconst (v := 0) hx hb dX5_check_34 (by decide) ?_
      have hP9 := hP.sub (ws' := [(h0, .inr (6, [.ref s0, .ref v0, .ref i0, .long tt, .long tg])), (s0, .inr (5, [.ref p0, .ref d0, .ref r0, .int (nI ct), .int (nI fp), .int fk, .int (nI sk)])), (p0, .inr (3, [.int (nI pB), .int (nI pS), .int (nI pG), .int (nI pE), .int (nI pC), .int (nI pO)])), (d0, .inr (2, [.ref d1, .int (nI n)])), (d1, .inl (cy 0, 70, .inl f)), (r0, .inr (2, [.ref r1, .int (nI rn)])), (r1, .inl (cy 0, 70, .inl rf)), (v0, .inr (4, [.ref p0, .ref e0, .int tm2_19, .int cbf])), (e0, .inr (2, [.ref e1, .int (nI n2_19)])), (e1, .inl (cy 0, 70, .inl f2_19)), (i0, .inr (1, [.ref i1, .int (nI w), .int gr, .int bt, .int jo])), (i1, .inl (cy 1, 10, .inl hf))]) [0, 1, 9, 2, 3, 4, 5, 8, 10, 11, 6, 7] rfl
      have hD9 := hD.sub (ws' := [(h0, .inr (6, [.ref s0, .ref v0, .ref i0, .long tt, .long tg])), (s0, .inr (5, [.ref p0, .ref d0, .ref r0, .int (nI ct), .int (nI fp), .int fk, .int (nI sk)])), (p0, .inr (3, [.int (nI pB), .int (nI pS), .int (nI pG), .int (nI pE), .int (nI pC), .int (nI pO)])), (d0, .inr (2, [.ref d1, .int (nI n)])), (d1, .inl (cy 0, 70, .inl f)), (r0, .inr (2, [.ref r1, .int (nI rn)])), (r1, .inl (cy 0, 70, .inl rf)), (v0, .inr (4, [.ref p0, .ref e0, .int tm2_19, .int cbf])), (e0, .inr (2, [.ref e1, .int (nI n2_19)])), (e1, .inl (cy 0, 70, .inl f2_19)), (i0, .inr (1, [.ref i1, .int (nI w), .int gr, .int bt, .int jo])), (i1, .inl (cy 1, 10, .inl hf))]) [0, 1, 9, 2, 3, 4, 5, 8, 10, 11, 6, 7] (by decide) rfl
      exact W.iret (v := 0) hx hb hr (fun t ht hW => ⟨⟨0, (f2_19, n2_19, tm2_19, cbf, hf, w, gr, bt, jo, tg), rfl, Or.inr (Or.inl ⟨c_23, rfl, hw_19, rfl, rfl, rfl, rfl, rfl, rfl, rfl⟩), by rw [ht]; exact hP9, hD9⟩, hS.F ht⟩) hS.2.2 dX5_check_35
    · exact absurd c_1 c_23
  · refine lv_iload_n hx hb dX5_check_4 rfl (lv_at hl 1 rfl) ?_
    have hPc := hP.sub (ws' := []) [] rfl
    have hDc := hD.sub (ws' := []) [] (by decide) rfl
    have hFc := va_free (wc := []) hD hS hA [] rfl
    refine va_calli (va_runS (As := [.int i]) (rest := []) ⟨hx, hb, hml, hown, hts⟩ (c_X5_isIdentity l D cy s.heap.size i ) (va_cwS 1 hts gX5_check_X5_isIdentity rfl rfl rfl (by decide +kernel) ⟨Nat.le_of_ble_eq_true rfl, Nat.le_of_ble_eq_true rfl⟩) (pv_S hkk hPc hDc rfl) rfl rfl hl.1 rfl (lv_room (Nat.le_of_ble_eq_true rfl)) dX5_check_5 ⟨Nat.le_of_ble_eq_true rfl, Nat.le_of_ble_eq_true rfl⟩) hS (fun q _ h => hFc q h) hFc (fun r_5 u t H1 locs ht hvm hw hB hz1 hk1 hS => ?_)
    obtain ⟨hP1, hD1⟩ := hB
    rw [ht] at hP1
    try dsimp only at hw hP1 hD1
    obtain ⟨hP, hD⟩ := va_join (wr := [(h0, .inr (6, [.ref s0, .ref v0, .ref i0, .long tt, .long tg])), (s0, .inr (5, [.ref p0, .ref d0, .ref r0, .int (nI ct), .int (nI fp), .int fk, .int (nI sk)])), (p0, .inr (3, [.int (nI pB), .int (nI pS), .int (nI pG), .int (nI pE), .int (nI pC), .int (nI pO)])), (d0, .inr (2, [.ref d1, .int (nI n)])), (d1, .inl (cy 0, 70, .inl f)), (r0, .inr (2, [.ref r1, .int (nI rn)])), (r1, .inl (cy 0, 70, .inl rf)), (v0, .inr (4, [.ref p0, .ref e0, .int tm, .int cbf])), (e0, .inr (2, [.ref e1, .int (nI en)])), (e1, .inl (cy 0, 70, .inl ef)), (i0, .inr (1, [.ref i1, .int (nI w), .int gr, .int bt, .int jo])), (i1, .inl (cy 1, 10, .inl hf))]) (w1 := []) hP hD [] [0, 1, 2, 3, 4, 5, 6, 7, 8, 9, 10, 11] rfl rfl (by decide) (by decide) hk1 hFc hP1 hD1
    clear hPc hDc hFc hP1 hD1 hz1 hk1
    generalize H1 = H at hP hS ⊢
    have hP : va_P D vwCl [(h0, .inr (6, [.ref s0, .ref v0, .ref i0, .long tt, .long tg])), (s0, .inr (5, [.ref p0, .ref d0, .ref r0, .int (nI ct), .int (nI fp), .int fk, .int (nI sk)])), (p0, .inr (3, [.int (nI pB), .int (nI pS), .int (nI pG), .int (nI pE), .int (nI pC), .int (nI pO)])), (d0, .inr (2, [.ref d1, .int (nI n)])), (d1, .inl (cy 0, 70, .inl f)), (r0, .inr (2, [.ref r1, .int (nI rn)])), (r1, .inl (cy 0, 70, .inl rf)), (v0, .inr (4, [.ref p0, .ref e0, .int tm, .int cbf])), (e0, .inr (2, [.ref e1, .int (nI en)])), (e1, .inl (cy 0, 70, .inl ef)), (i0, .inr (1, [.ref i1, .int (nI w), .int gr, .int bt, .int jo])), (i1, .inl (cy 1, 10, .inl hf))] H := hP
    have hD : va_D A [(h0, .inr (6, [.ref s0, .ref v0, .ref i0, .long tt, .long tg])), (s0, .inr (5, [.ref p0, .ref d0, .ref r0, .int (nI ct), .int (nI fp), .int fk, .int (nI sk)])), (p0, .inr (3, [.int (nI pB), .int (nI pS), .int (nI pG), .int (nI pE), .int (nI pC), .int (nI pO)])), (d0, .inr (2, [.ref d1, .int (nI n)])), (d1, .inl (cy 0, 70, .inl f)), (r0, .inr (2, [.ref r1, .int (nI rn)])), (r1, .inl (cy 0, 70, .inl rf)), (v0, .inr (4, [.ref p0, .ref e0, .int tm, .int cbf])), (e0, .inr (2, [.ref e1, .int (nI en)])), (e1, .inl (cy 0, 70, .inl ef)), (i0, .inr (1, [.ref i1, .int (nI w), .int gr, .int bt, .int jo])), (i1, .inl (cy 1, 10, .inl hf))] := hD
    obtain rfl := hw
    refine lv_if_ne (tgt := 14) hx hb dX5_check_8 (by decide) (fun c_8 => ?_) (fun c_8 => ?_)
    · refine lv_aload_n hx hb dX5_check_14 rfl (lv_at hl 0 rfl) ?_
      refine va_get (D := D) (ci := 6) (v := .ref v0) (C := RX5) (T := TX5) (N := 5) hx hb hts iw_X5_check_X5 hown hK hP 0 rfl rfl 1 (by decide) (hts _ lk_X5_check_f27) (fun _ h9 => h9) rfl dX5_check_15 ?_
      refine lv_iload_n hx hb dX5_check_18 rfl (lv_at hl 2 rfl) ?_
      have hPc := hP.sub (ws' := [(v0, .inr (4, [.ref p0, .ref e0, .int tm, .int cbf])), (p0, .inr (3, [.int (nI pB), .int (nI pS), .int (nI pG), .int (nI pE), .int (nI pC), .int (nI pO)])), (e0, .inr (2, [.ref e1, .int (nI en)])), (e1, .inl (cy 0, 70, .inl ef))]) [7, 2, 8, 9] rfl
      have hDc := hD.sub (ws' := [(v0, .inr (4, [.ref p0, .ref e0, .int tm, .int cbf])), (p0, .inr (3, [.int (nI pB), .int (nI pS), .int (nI pG), .int (nI pE), .int (nI pC), .int (nI pO)])), (e0, .inr (2, [.ref e1, .int (nI en)])), (e1, .inl (cy 0, 70, .inl ef))]) [7, 2, 8, 9] (by decide) rfl
      have hFc := va_free (wc := [(v0, .inr (4, [.ref p0, .ref e0, .int tm, .int cbf])), (p0, .inr (3, [.int (nI pB), .int (nI pS), .int (nI pG), .int (nI pE), .int (nI pC), .int (nI pO)])), (e0, .inr (2, [.ref e1, .int (nI en)])), (e1, .inl (cy 0, 70, .inl ef))]) hD hS hA [7, 2, 8, 9] rfl
      refine va_callv (va_runV (As := [.int x]) (rest := []) ⟨hx, hb, hml, hown, hts⟩ (c_X3_collect l D cy H.size v0 p0 e0 e1 tm cbf pB pS pG pE pC pO ef en x hen) (cwV 1 hts gX5_check_X3_collect rfl rfl rfl (by decide +kernel) ⟨Nat.le_of_ble_eq_true rfl, Nat.le_of_ble_eq_true rfl⟩) (pv_V (ci := 4) (q := (RX3, TX3, 4)) hkk hPc hDc rfl rfl rfl) rfl rfl hl.1 rfl (lv_room (Nat.le_of_ble_eq_true rfl)) dX5_check_19 ⟨Nat.le_of_ble_eq_true rfl, Nat.le_of_ble_eq_true rfl⟩) hS (fun q _ h => hFc q h) hFc (fun u t H1 locs ht hvm hw hB hz1 hk1 hS => ?_)
      obtain ⟨f2_19, n2_19, tm2_19⟩ := u
      obtain ⟨hP1, hD1⟩ := hB
      rw [ht] at hP1
      try dsimp only at hw hP1 hD1
      obtain ⟨hP, hD⟩ := va_join (wr := [(h0, .inr (6, [.ref s0, .ref v0, .ref i0, .long tt, .long tg])), (s0, .inr (5, [.ref p0, .ref d0, .ref r0, .int (nI ct), .int (nI fp), .int fk, .int (nI sk)])), (d0, .inr (2, [.ref d1, .int (nI n)])), (d1, .inl (cy 0, 70, .inl f)), (r0, .inr (2, [.ref r1, .int (nI rn)])), (r1, .inl (cy 0, 70, .inl rf)), (i0, .inr (1, [.ref i1, .int (nI w), .int gr, .int bt, .int jo])), (i1, .inl (cy 1, 10, .inl hf))]) (w1 := [(v0, .inr (4, [.ref p0, .ref e0, .int tm2_19, .int cbf])), (p0, .inr (3, [.int (nI pB), .int (nI pS), .int (nI pG), .int (nI pE), .int (nI pC), .int (nI pO)])), (e0, .inr (2, [.ref e1, .int (nI n2_19)])), (e1, .inl (cy 0, 70, .inl f2_19))]) hP hD [7, 2, 8, 9] [0, 1, 3, 4, 5, 6, 10, 11] rfl rfl (by decide) (by decide) hk1 hFc hP1 hD1
      clear hPc hDc hFc hP1 hD1 hz1 hk1
      generalize H1 = H at hP hS ⊢
      have hP : va_P D vwCl [(h0, .inr (6, [.ref s0, .ref v0, .ref i0, .long tt, .long tg])), (s0, .inr (5, [.ref p0, .ref d0, .ref r0, .int (nI ct), .int (nI fp), .int fk, .int (nI sk)])), (d0, .inr (2, [.ref d1, .int (nI n)])), (d1, .inl (cy 0, 70, .inl f)), (r0, .inr (2, [.ref r1, .int (nI rn)])), (r1, .inl (cy 0, 70, .inl rf)), (i0, .inr (1, [.ref i1, .int (nI w), .int gr, .int bt, .int jo])), (i1, .inl (cy 1, 10, .inl hf)), (v0, .inr (4, [.ref p0, .ref e0, .int tm2_19, .int cbf])), (p0, .inr (3, [.int (nI pB), .int (nI pS), .int (nI pG), .int (nI pE), .int (nI pC), .int (nI pO)])), (e0, .inr (2, [.ref e1, .int (nI n2_19)])), (e1, .inl (cy 0, 70, .inl f2_19))] H := hP
      have hD : va_D A [(h0, .inr (6, [.ref s0, .ref v0, .ref i0, .long tt, .long tg])), (s0, .inr (5, [.ref p0, .ref d0, .ref r0, .int (nI ct), .int (nI fp), .int fk, .int (nI sk)])), (d0, .inr (2, [.ref d1, .int (nI n)])), (d1, .inl (cy 0, 70, .inl f)), (r0, .inr (2, [.ref r1, .int (nI rn)])), (r1, .inl (cy 0, 70, .inl rf)), (i0, .inr (1, [.ref i1, .int (nI w), .int gr, .int bt, .int jo])), (i1, .inl (cy 1, 10, .inl hf)), (v0, .inr (4, [.ref p0, .ref e0, .int tm2_19, .int cbf])), (p0, .inr (3, [.int (nI pB), .int (nI pS), .int (nI pG), .int (nI pE), .int (nI pC), .int (nI pO)])), (e0, .inr (2, [.ref e1, .int (nI n2_19)])), (e1, .inl (cy 0, 70, .inl f2_19))] := hD
      have hw_19 := hw
      refine lv_iload_n hx hb dX5_check_22 rfl (lv_at hl 3 rfl) ?_
      refine lv_if_eq (tgt := 34) hx hb dX5_check_23 (by decide) (fun c_23 => ?_) (fun c_23 => ?_)
      · exact absurd c_23 c_1
      · obtain ⟨d, hd, rfl⟩ := idy_yes c_8
        have hpu := oc_is_push heg hen hw_19
        refine lv_aload_n hx hb dX5_check_26 rfl (lv_at hl 0 rfl) ?_
        refine lv_iload_n hx hb dX5_check_27 rfl (lv_at hl 1 rfl) ?_
        have hPc := hP.sub (ws' := [(h0, .inr (6, [.ref s0, .ref v0, .ref i0, .long tt, .long tg])), (s0, .inr (5, [.ref p0, .ref d0, .ref r0, .int (nI ct), .int (nI fp), .int fk, .int (nI sk)])), (p0, .inr (3, [.int (nI pB), .int (nI pS), .int (nI pG), .int (nI pE), .int (nI pC), .int (nI pO)])), (d0, .inr (2, [.ref d1, .int (nI n)])), (d1, .inl (cy 0, 70, .inl f)), (r0, .inr (2, [.ref r1, .int (nI rn)])), (r1, .inl (cy 0, 70, .inl rf)), (v0, .inr (4, [.ref p0, .ref e0, .int tm2_19, .int cbf])), (e0, .inr (2, [.ref e1, .int (nI n2_19)])), (e1, .inl (cy 0, 70, .inl f2_19)), (i0, .inr (1, [.ref i1, .int (nI w), .int gr, .int bt, .int jo])), (i1, .inl (cy 1, 10, .inl hf))]) [0, 1, 9, 2, 3, 4, 5, 8, 10, 11, 6, 7] rfl
        have hDc := hD.sub (ws' := [(h0, .inr (6, [.ref s0, .ref v0, .ref i0, .long tt, .long tg])), (s0, .inr (5, [.ref p0, .ref d0, .ref r0, .int (nI ct), .int (nI fp), .int fk, .int (nI sk)])), (p0, .inr (3, [.int (nI pB), .int (nI pS), .int (nI pG), .int (nI pE), .int (nI pC), .int (nI pO)])), (d0, .inr (2, [.ref d1, .int (nI n)])), (d1, .inl (cy 0, 70, .inl f)), (r0, .inr (2, [.ref r1, .int (nI rn)])), (r1, .inl (cy 0, 70, .inl rf)), (v0, .inr (4, [.ref p0, .ref e0, .int tm2_19, .int cbf])), (e0, .inr (2, [.ref e1, .int (nI n2_19)])), (e1, .inl (cy 0, 70, .inl f2_19)), (i0, .inr (1, [.ref i1, .int (nI w), .int gr, .int bt, .int jo])), (i1, .inl (cy 1, 10, .inl hf))]) [0, 1, 9, 2, 3, 4, 5, 8, 10, 11, 6, 7] (by decide) rfl
        have hFc := va_free (wc := [(h0, .inr (6, [.ref s0, .ref v0, .ref i0, .long tt, .long tg])), (s0, .inr (5, [.ref p0, .ref d0, .ref r0, .int (nI ct), .int (nI fp), .int fk, .int (nI sk)])), (p0, .inr (3, [.int (nI pB), .int (nI pS), .int (nI pG), .int (nI pE), .int (nI pC), .int (nI pO)])), (d0, .inr (2, [.ref d1, .int (nI n)])), (d1, .inl (cy 0, 70, .inl f)), (r0, .inr (2, [.ref r1, .int (nI rn)])), (r1, .inl (cy 0, 70, .inl rf)), (v0, .inr (4, [.ref p0, .ref e0, .int tm2_19, .int cbf])), (e0, .inr (2, [.ref e1, .int (nI n2_19)])), (e1, .inl (cy 0, 70, .inl f2_19)), (i0, .inr (1, [.ref i1, .int (nI w), .int gr, .int bt, .int jo])), (i1, .inl (cy 1, 10, .inl hf))]) hD hS hA [0, 1, 9, 2, 3, 4, 5, 8, 10, 11, 6, 7] rfl
        refine va_calli (va_runV (As := [.int (nI d)]) (rest := []) ⟨hx, hb, hml, hown, hts⟩ (c_X5_endOfRow l D cy H.size h0 s0 v0 i0 p0 d0 d1 r0 r1 e0 e1 i1 tt tg ct fp fk sk pB pS pG pE pC pO f n rf rn tm2_19 cbf f2_19 n2_19 hf w gr bt jo (gpu eg en x) d (by first | assumption | omega) hpu.2 hpu.1 (by first | assumption | omega) (by first | assumption | omega)) (cwV 1 hts gX5_check_X5_endOfRow rfl rfl rfl (by decide +kernel) ⟨Nat.le_of_ble_eq_true rfl, Nat.le_of_ble_eq_true rfl⟩) (pv_V (ci := 6) (q := (RX5, TX5, 5)) hkk hPc hDc rfl rfl rfl) rfl rfl hl.1 rfl (lv_room (Nat.le_of_ble_eq_true rfl)) dX5_check_28 ⟨Nat.le_of_ble_eq_true rfl, Nat.le_of_ble_eq_true rfl⟩) hS (fun q _ h => hFc q h) hFc (fun r_28 u t H1 locs ht hvm hw hB hz1 hk1 hS => ?_)
        obtain ⟨cb2_28, hf2_28, w2_28, gr2_28, bt2_28, jo2_28, tg2_28⟩ := u
        obtain ⟨hP1, hD1⟩ := hB
        rw [ht] at hP1
        try dsimp only at hw hP1 hD1
        obtain ⟨hP, hD⟩ := va_join (wr := []) (w1 := [(h0, .inr (6, [.ref s0, .ref v0, .ref i0, .long tt, .long tg2_28])), (s0, .inr (5, [.ref p0, .ref d0, .ref r0, .int (nI ct), .int (nI fp), .int fk, .int (nI sk)])), (p0, .inr (3, [.int (nI pB), .int (nI pS), .int (nI pG), .int (nI pE), .int (nI pC), .int (nI pO)])), (d0, .inr (2, [.ref d1, .int (nI n)])), (d1, .inl (cy 0, 70, .inl f)), (r0, .inr (2, [.ref r1, .int (nI rn)])), (r1, .inl (cy 0, 70, .inl rf)), (v0, .inr (4, [.ref p0, .ref e0, .int 0, .int cb2_28])), (e0, .inr (2, [.ref e1, .int (nI 0)])), (e1, .inl (cy 0, 70, .inl f2_19)), (i0, .inr (1, [.ref i1, .int (nI w2_28), .int gr2_28, .int bt2_28, .int jo2_28])), (i1, .inl (cy 1, 10, .inl hf2_28))]) hP hD [0, 1, 9, 2, 3, 4, 5, 8, 10, 11, 6, 7] [] rfl rfl (by decide) (by decide) hk1 hFc hP1 hD1
        clear hPc hDc hFc hP1 hD1 hz1 hk1
        generalize H1 = H at hP hS ⊢
        have hP : va_P D vwCl [(h0, .inr (6, [.ref s0, .ref v0, .ref i0, .long tt, .long tg2_28])), (s0, .inr (5, [.ref p0, .ref d0, .ref r0, .int (nI ct), .int (nI fp), .int fk, .int (nI sk)])), (p0, .inr (3, [.int (nI pB), .int (nI pS), .int (nI pG), .int (nI pE), .int (nI pC), .int (nI pO)])), (d0, .inr (2, [.ref d1, .int (nI n)])), (d1, .inl (cy 0, 70, .inl f)), (r0, .inr (2, [.ref r1, .int (nI rn)])), (r1, .inl (cy 0, 70, .inl rf)), (v0, .inr (4, [.ref p0, .ref e0, .int 0, .int cb2_28])), (e0, .inr (2, [.ref e1, .int (nI 0)])), (e1, .inl (cy 0, 70, .inl f2_19)), (i0, .inr (1, [.ref i1, .int (nI w2_28), .int gr2_28, .int bt2_28, .int jo2_28])), (i1, .inl (cy 1, 10, .inl hf2_28))] H := hP
        have hD : va_D A [(h0, .inr (6, [.ref s0, .ref v0, .ref i0, .long tt, .long tg2_28])), (s0, .inr (5, [.ref p0, .ref d0, .ref r0, .int (nI ct), .int (nI fp), .int fk, .int (nI sk)])), (p0, .inr (3, [.int (nI pB), .int (nI pS), .int (nI pG), .int (nI pE), .int (nI pC), .int (nI pO)])), (d0, .inr (2, [.ref d1, .int (nI n)])), (d1, .inl (cy 0, 70, .inl f)), (r0, .inr (2, [.ref r1, .int (nI rn)])), (r1, .inl (cy 0, 70, .inl rf)), (v0, .inr (4, [.ref p0, .ref e0, .int 0, .int cb2_28])), (e0, .inr (2, [.ref e1, .int (nI 0)])), (e1, .inl (cy 0, 70, .inl f2_19)), (i0, .inr (1, [.ref i1, .int (nI w2_28), .int gr2_28, .int bt2_28, .int jo2_28])), (i1, .inl (cy 1, 10, .inl hf2_28))] := hD
        have hw_28 := hw
        refine lv_goto (tgt := 35) hx hb dX5_check_31 (by decide) ?_
        have hP9 := hP.sub (ws' := [(h0, .inr (6, [.ref s0, .ref v0, .ref i0, .long tt, .long tg2_28])), (s0, .inr (5, [.ref p0, .ref d0, .ref r0, .int (nI ct), .int (nI fp), .int fk, .int (nI sk)])), (p0, .inr (3, [.int (nI pB), .int (nI pS), .int (nI pG), .int (nI pE), .int (nI pC), .int (nI pO)])), (d0, .inr (2, [.ref d1, .int (nI n)])), (d1, .inl (cy 0, 70, .inl f)), (r0, .inr (2, [.ref r1, .int (nI rn)])), (r1, .inl (cy 0, 70, .inl rf)), (v0, .inr (4, [.ref p0, .ref e0, .int 0, .int cb2_28])), (e0, .inr (2, [.ref e1, .int (nI 0)])), (e1, .inl (cy 0, 70, .inl f2_19)), (i0, .inr (1, [.ref i1, .int (nI w2_28), .int gr2_28, .int bt2_28, .int jo2_28])), (i1, .inl (cy 1, 10, .inl hf2_28))]) [0, 1, 2, 3, 4, 5, 6, 7, 8, 9, 10, 11] rfl
        have hD9 := hD.sub (ws' := [(h0, .inr (6, [.ref s0, .ref v0, .ref i0, .long tt, .long tg2_28])), (s0, .inr (5, [.ref p0, .ref d0, .ref r0, .int (nI ct), .int (nI fp), .int fk, .int (nI sk)])), (p0, .inr (3, [.int (nI pB), .int (nI pS), .int (nI pG), .int (nI pE), .int (nI pC), .int (nI pO)])), (d0, .inr (2, [.ref d1, .int (nI n)])), (d1, .inl (cy 0, 70, .inl f)), (r0, .inr (2, [.ref r1, .int (nI rn)])), (r1, .inl (cy 0, 70, .inl rf)), (v0, .inr (4, [.ref p0, .ref e0, .int 0, .int cb2_28])), (e0, .inr (2, [.ref e1, .int (nI 0)])), (e1, .inl (cy 0, 70, .inl f2_19)), (i0, .inr (1, [.ref i1, .int (nI w2_28), .int gr2_28, .int bt2_28, .int jo2_28])), (i1, .inl (cy 1, 10, .inl hf2_28))]) [0, 1, 2, 3, 4, 5, 6, 7, 8, 9, 10, 11] (by decide) rfl
        exact W.iret (v := r_28) hx hb hr (fun t ht hW => ⟨⟨r_28, (f2_19, 0, 0, cb2_28, hf2_28, w2_28, gr2_28, bt2_28, jo2_28, tg2_28), rfl, Or.inr (Or.inr ⟨c_23, d, hd, rfl, rfl, rfl, _, _, _, hw_19, hw_28⟩), by rw [ht]; exact hP9, hD9⟩, hS.F ht⟩) hS.2.2 dX5_check_35
    · refine lv_bipush (v := (-2)) hx hb dX5_check_11 (by decide) ?_
      have hP9 := hP.sub (ws' := [(h0, .inr (6, [.ref s0, .ref v0, .ref i0, .long tt, .long tg])), (s0, .inr (5, [.ref p0, .ref d0, .ref r0, .int (nI ct), .int (nI fp), .int fk, .int (nI sk)])), (p0, .inr (3, [.int (nI pB), .int (nI pS), .int (nI pG), .int (nI pE), .int (nI pC), .int (nI pO)])), (d0, .inr (2, [.ref d1, .int (nI n)])), (d1, .inl (cy 0, 70, .inl f)), (r0, .inr (2, [.ref r1, .int (nI rn)])), (r1, .inl (cy 0, 70, .inl rf)), (v0, .inr (4, [.ref p0, .ref e0, .int tm, .int cbf])), (e0, .inr (2, [.ref e1, .int (nI en)])), (e1, .inl (cy 0, 70, .inl ef)), (i0, .inr (1, [.ref i1, .int (nI w), .int gr, .int bt, .int jo])), (i1, .inl (cy 1, 10, .inl hf))]) [0, 1, 2, 3, 4, 5, 6, 7, 8, 9, 10, 11] rfl
      have hD9 := hD.sub (ws' := [(h0, .inr (6, [.ref s0, .ref v0, .ref i0, .long tt, .long tg])), (s0, .inr (5, [.ref p0, .ref d0, .ref r0, .int (nI ct), .int (nI fp), .int fk, .int (nI sk)])), (p0, .inr (3, [.int (nI pB), .int (nI pS), .int (nI pG), .int (nI pE), .int (nI pC), .int (nI pO)])), (d0, .inr (2, [.ref d1, .int (nI n)])), (d1, .inl (cy 0, 70, .inl f)), (r0, .inr (2, [.ref r1, .int (nI rn)])), (r1, .inl (cy 0, 70, .inl rf)), (v0, .inr (4, [.ref p0, .ref e0, .int tm, .int cbf])), (e0, .inr (2, [.ref e1, .int (nI en)])), (e1, .inl (cy 0, 70, .inl ef)), (i0, .inr (1, [.ref i1, .int (nI w), .int gr, .int bt, .int jo])), (i1, .inl (cy 1, 10, .inl hf))]) [0, 1, 2, 3, 4, 5, 6, 7, 8, 9, 10, 11] (by decide) rfl
      exact W.iret (v := (-2)) hx hb hr (fun t ht hW => ⟨⟨(-2), (ef, en, tm, cbf, hf, w, gr, bt, jo, tg), rfl, Or.inl ⟨c_1, c_8, rfl, rfl, rfl, rfl, rfl, rfl, rfl, rfl, rfl, rfl, rfl⟩, by rw [ht]; exact hP9, hD9⟩, hS.F ht⟩) hS.2.2 dX5_check_13
end
