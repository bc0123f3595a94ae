section
-- ===== PART A: goes FIRST, ahead of the names: the tables' words, and 'selects' of the private methods out of them =====
/-- a private method of a class that the tables say can be made, by its rows of tables_1 -/
def lw_okq (q : MethodName × Nat) : Prop := (q.1.cls ≠ "java/lang/invoke/MethodHandle" ∧ q.1.cls ≠ "java/lang/invoke/VarHandle") ∧ Cond.instantiable q.1.cls q.2 ∈ tables_1 ∧ Cond.privateMethod q.1 ∈ tables_1 ∧ Cond.instanceMethod q.1 ∈ tables_1
theorem lw_p0 : lw_okq (⟨"MessageReader", "lookAt", "(I)I"⟩, 6) := ⟨⟨by decide +kernel, by decide +kernel⟩, List.mem_of_getElem? (i := 9) (by decide +kernel), List.mem_of_getElem? (i := 42) (by decide +kernel), List.mem_of_getElem? (i := 43) (by decide +kernel)⟩
theorem lw_p1 : lw_okq (⟨"MessageReader", "storedByte", "(I)I"⟩, 6) := ⟨⟨by decide +kernel, by decide +kernel⟩, List.mem_of_getElem? (i := 9) (by decide +kernel), List.mem_of_getElem? (i := 46) (by decide +kernel), List.mem_of_getElem? (i := 47) (by decide +kernel)⟩
theorem lw_p2 : lw_okq (⟨"MessageReader", "numberAt", "(I)J"⟩, 6) := ⟨⟨by decide +kernel, by decide +kernel⟩, List.mem_of_getElem? (i := 9) (by decide +kernel), List.mem_of_getElem? (i := 66) (by decide +kernel), List.mem_of_getElem? (i := 67) (by decide +kernel)⟩
theorem lw_p3 : lw_okq (⟨"MessageReader", "readNumber", "(II)J"⟩, 6) := ⟨⟨by decide +kernel, by decide +kernel⟩, List.mem_of_getElem? (i := 9) (by decide +kernel), List.mem_of_getElem? (i := 73) (by decide +kernel), List.mem_of_getElem? (i := 74) (by decide +kernel)⟩
theorem lw_p4 : lw_okq (⟨"MessageReader", "payloadLengthAt", "(I)I"⟩, 6) := ⟨⟨by decide +kernel, by decide +kernel⟩, List.mem_of_getElem? (i := 9) (by decide +kernel), List.mem_of_getElem? (i := 81) (by decide +kernel), List.mem_of_getElem? (i := 82) (by decide +kernel)⟩
theorem lw_p5 : lw_okq (⟨"MessageReader", "kindAt", "(I)I"⟩, 6) := ⟨⟨by decide +kernel, by decide +kernel⟩, List.mem_of_getElem? (i := 9) (by decide +kernel), List.mem_of_getElem? (i := 85) (by decide +kernel), List.mem_of_getElem? (i := 86) (by decide +kernel)⟩
theorem lw_p6 : lw_okq (⟨"MessageReader", "childrenAt", "(I)J"⟩, 6) := ⟨⟨by decide +kernel, by decide +kernel⟩, List.mem_of_getElem? (i := 9) (by decide +kernel), List.mem_of_getElem? (i := 92) (by decide +kernel), List.mem_of_getElem? (i := 93) (by decide +kernel)⟩
theorem lw_p7 : lw_okq (⟨"MessageReader", "countChild", "()V"⟩, 6) := ⟨⟨by decide +kernel, by decide +kernel⟩, List.mem_of_getElem? (i := 9) (by decide +kernel), List.mem_of_getElem? (i := 97) (by decide +kernel), List.mem_of_getElem? (i := 98) (by decide +kernel)⟩
theorem lw_p8 : lw_okq (⟨"MessageReader", "openContainer", "(J)V"⟩, 6) := ⟨⟨by decide +kernel, by decide +kernel⟩, List.mem_of_getElem? (i := 9) (by decide +kernel), List.mem_of_getElem? (i := 101) (by decide +kernel), List.mem_of_getElem? (i := 102) (by decide +kernel)⟩
theorem lw_p9 : lw_okq (⟨"MessageReader", "closeFinished", "()V"⟩, 6) := ⟨⟨by decide +kernel, by decide +kernel⟩, List.mem_of_getElem? (i := 9) (by decide +kernel), List.mem_of_getElem? (i := 105) (by decide +kernel), List.mem_of_getElem? (i := 106) (by decide +kernel)⟩
theorem lw_p10 : lw_okq (⟨"MessageReader", "consume", "(I)V"⟩, 6) := ⟨⟨by decide +kernel, by decide +kernel⟩, List.mem_of_getElem? (i := 9) (by decide +kernel), List.mem_of_getElem? (i := 109) (by decide +kernel), List.mem_of_getElem? (i := 110) (by decide +kernel)⟩
theorem lw_p11 : lw_okq (⟨"MessageReader", "endAt", "(I)I"⟩, 6) := ⟨⟨by decide +kernel, by decide +kernel⟩, List.mem_of_getElem? (i := 9) (by decide +kernel), List.mem_of_getElem? (i := 113) (by decide +kernel), List.mem_of_getElem? (i := 114) (by decide +kernel)⟩
theorem lw_p12 : lw_okq (⟨"MessageReader", "headLengthAt", "(I)I"⟩, 6) := ⟨⟨by decide +kernel, by decide +kernel⟩, List.mem_of_getElem? (i := 9) (by decide +kernel), List.mem_of_getElem? (i := 117) (by decide +kernel), List.mem_of_getElem? (i := 118) (by decide +kernel)⟩
theorem lw_p13 : lw_okq (⟨"MessageReader", "lastHeadFrom", "(I)I"⟩, 6) := ⟨⟨by decide +kernel, by decide +kernel⟩, List.mem_of_getElem? (i := 9) (by decide +kernel), List.mem_of_getElem? (i := 125) (by decide +kernel), List.mem_of_getElem? (i := 126) (by decide +kernel)⟩
theorem lw_p14 : lw_okq (⟨"MessageReader", "typeAt", "(I)I"⟩, 6) := ⟨⟨by decide +kernel, by decide +kernel⟩, List.mem_of_getElem? (i := 9) (by decide +kernel), List.mem_of_getElem? (i := 141) (by decide +kernel), List.mem_of_getElem? (i := 142) (by decide +kernel)⟩
theorem lw_p15 : lw_okq (⟨"java/lang/Throwable", "fillInStackTrace", "(I)Ljava/lang/Throwable;"⟩, 6) := ⟨⟨by decide +kernel, by decide +kernel⟩, List.mem_of_getElem? (i := 207) (by decide +kernel), List.mem_of_getElem? (i := 205) (by decide +kernel), List.mem_of_getElem? (i := 206) (by decide +kernel)⟩
def lw_privs_1 : List (MethodName × Nat) := [(⟨"MessageReader", "lookAt", "(I)I"⟩, 6), (⟨"MessageReader", "storedByte", "(I)I"⟩, 6), (⟨"MessageReader", "numberAt", "(I)J"⟩, 6), (⟨"MessageReader", "readNumber", "(II)J"⟩, 6), (⟨"MessageReader", "payloadLengthAt", "(I)I"⟩, 6), (⟨"MessageReader", "kindAt", "(I)I"⟩, 6), (⟨"MessageReader", "childrenAt", "(I)J"⟩, 6), (⟨"MessageReader", "countChild", "()V"⟩, 6), (⟨"MessageReader", "openContainer", "(J)V"⟩, 6), (⟨"MessageReader", "closeFinished", "()V"⟩, 6), (⟨"MessageReader", "consume", "(I)V"⟩, 6), (⟨"MessageReader", "endAt", "(I)I"⟩, 6), (⟨"MessageReader", "headLengthAt", "(I)I"⟩, 6), (⟨"MessageReader", "lastHeadFrom", "(I)I"⟩, 6), (⟨"MessageReader", "typeAt", "(I)I"⟩, 6), (⟨"java/lang/Throwable", "fillInStackTrace", "(I)Ljava/lang/Throwable;"⟩, 6)]
theorem lw_r1 : ∀ q ∈ lw_privs_1, lw_okq q := List.forall_mem_cons.mpr ⟨lw_p0, List.forall_mem_cons.mpr ⟨lw_p1, List.forall_mem_cons.mpr ⟨lw_p2, List.forall_mem_cons.mpr ⟨lw_p3, List.forall_mem_cons.mpr ⟨lw_p4, List.forall_mem_cons.mpr ⟨lw_p5, List.forall_mem_cons.mpr ⟨lw_p6, List.forall_mem_cons.mpr ⟨lw_p7, List.forall_mem_cons.mpr ⟨lw_p8, List.forall_mem_cons.mpr ⟨lw_p9, List.forall_mem_cons.mpr ⟨lw_p10, List.forall_mem_cons.mpr ⟨lw_p11, List.forall_mem_cons.mpr ⟨lw_p12, List.forall_mem_cons.mpr ⟨lw_p13, List.forall_mem_cons.mpr ⟨lw_p14, List.forall_mem_cons.mpr ⟨lw_p15, fun _ h => absurd h List.not_mem_nil⟩⟩⟩⟩⟩⟩⟩⟩⟩⟩⟩⟩⟩⟩⟩⟩
theorem lw_p16 : lw_okq (⟨"MessageReader", "hasRoom", "(I)Z"⟩, 6) := ⟨⟨by decide +kernel, by decide +kernel⟩, List.mem_of_getElem? (i := 9) (by decide +kernel), List.mem_of_getElem? (i := 236) (by decide +kernel), List.mem_of_getElem? (i := 237) (by decide +kernel)⟩
theorem lw_p17 : lw_okq (⟨"MessageReader", "append", "(JI)V"⟩, 6) := ⟨⟨by decide +kernel, by decide +kernel⟩, List.mem_of_getElem? (i := 9) (by decide +kernel), List.mem_of_getElem? (i := 256) (by decide +kernel), List.mem_of_getElem? (i := 257) (by decide +kernel)⟩
theorem lw_p18 : lw_okq (⟨"MessageReaderModel", "fails", "(ZI)Z"⟩, 17) := ⟨⟨by decide +kernel, by decide +kernel⟩, List.mem_of_getElem? (i := 328) (by decide +kernel), List.mem_of_getElem? (i := 395) (by decide +kernel), List.mem_of_getElem? (i := 396) (by decide +kernel)⟩
theorem lw_p19 : lw_okq (⟨"MessageReaderModel", "write", "(JI)V"⟩, 17) := ⟨⟨by decide +kernel, by decide +kernel⟩, List.mem_of_getElem? (i := 328) (by decide +kernel), List.mem_of_getElem? (i := 403) (by decide +kernel), List.mem_of_getElem? (i := 404) (by decide +kernel)⟩
theorem lw_p20 : lw_okq (⟨"MessageReaderModel", "look", "(I)I"⟩, 17) := ⟨⟨by decide +kernel, by decide +kernel⟩, List.mem_of_getElem? (i := 328) (by decide +kernel), List.mem_of_getElem? (i := 420) (by decide +kernel), List.mem_of_getElem? (i := 421) (by decide +kernel)⟩
theorem lw_p21 : lw_okq (⟨"MessageReaderModel", "numberAt", "(II)J"⟩, 17) := ⟨⟨by decide +kernel, by decide +kernel⟩, List.mem_of_getElem? (i := 328) (by decide +kernel), List.mem_of_getElem? (i := 433) (by decide +kernel), List.mem_of_getElem? (i := 434) (by decide +kernel)⟩
theorem lw_p22 : lw_okq (⟨"MessageReaderModel", "give", "(I)V"⟩, 17) := ⟨⟨by decide +kernel, by decide +kernel⟩, List.mem_of_getElem? (i := 328) (by decide +kernel), List.mem_of_getElem? (i := 439) (by decide +kernel), List.mem_of_getElem? (i := 440) (by decide +kernel)⟩
theorem lw_p23 : lw_okq (⟨"MessageReaderModel", "closeDone", "()V"⟩, 17) := ⟨⟨by decide +kernel, by decide +kernel⟩, List.mem_of_getElem? (i := 328) (by decide +kernel), List.mem_of_getElem? (i := 443) (by decide +kernel), List.mem_of_getElem? (i := 444) (by decide +kernel)⟩
theorem lw_p24 : lw_okq (⟨"MessageReaderModel", "end", "(I)I"⟩, 17) := ⟨⟨by decide +kernel, by decide +kernel⟩, List.mem_of_getElem? (i := 328) (by decide +kernel), List.mem_of_getElem? (i := 451) (by decide +kernel), List.mem_of_getElem? (i := 452) (by decide +kernel)⟩
theorem lw_p25 : lw_okq (⟨"MessageReaderModel", "packHead", "(IIJI)I"⟩, 17) := ⟨⟨by decide +kernel, by decide +kernel⟩, List.mem_of_getElem? (i := 328) (by decide +kernel), List.mem_of_getElem? (i := 496) (by decide +kernel), List.mem_of_getElem? (i := 497) (by decide +kernel)⟩
def lw_privs_2 : List (MethodName × Nat) := [(⟨"MessageReader", "hasRoom", "(I)Z"⟩, 6), (⟨"MessageReader", "append", "(JI)V"⟩, 6), (⟨"MessageReaderModel", "fails", "(ZI)Z"⟩, 17), (⟨"MessageReaderModel", "write", "(JI)V"⟩, 17), (⟨"MessageReaderModel", "look", "(I)I"⟩, 17), (⟨"MessageReaderModel", "numberAt", "(II)J"⟩, 17), (⟨"MessageReaderModel", "give", "(I)V"⟩, 17), (⟨"MessageReaderModel", "closeDone", "()V"⟩, 17), (⟨"MessageReaderModel", "end", "(I)I"⟩, 17), (⟨"MessageReaderModel", "packHead", "(IIJI)I"⟩, 17)]
theorem lw_r2 : ∀ q ∈ lw_privs_2, lw_okq q := List.forall_mem_cons.mpr ⟨lw_p16, List.forall_mem_cons.mpr ⟨lw_p17, List.forall_mem_cons.mpr ⟨lw_p18, List.forall_mem_cons.mpr ⟨lw_p19, List.forall_mem_cons.mpr ⟨lw_p20, List.forall_mem_cons.mpr ⟨lw_p21, List.forall_mem_cons.mpr ⟨lw_p22, List.forall_mem_cons.mpr ⟨lw_p23, List.forall_mem_cons.mpr ⟨lw_p24, List.forall_mem_cons.mpr ⟨lw_p25, fun _ h => absurd h List.not_mem_nil⟩⟩⟩⟩⟩⟩⟩⟩⟩⟩
def lw_privs : List (MethodName × Nat) := lw_privs_1 ++ (lw_privs_2)
def lw_tbl : List Cond := k2_sels lw_privs ++ tables_1
theorem lw_privs_ok : ∀ q ∈ lw_privs, lw_okq q := by
  show ∀ q ∈ lw_privs_1 ++ (lw_privs_2), lw_okq q
  exact List.forall_mem_append.mpr ⟨lw_r1, lw_r2⟩
end
section
/-! ===== BEGIN words of one list among another's, by their places ===== -/
theorem goodIn_r {big : List Cond} (ws : List Cond) (ps : List Nat) (hp : ws = ps.filterMap (fun i => big[i]?)) (h : ws.all goodWord = true) : GoodIn big ws := by
  intro w hw
  have h1 := List.all_eq_true.mp h w hw
  rw [hp] at hw
  obtain ⟨i, -, hi⟩ := List.mem_filterMap.mp hw
  have hm : w ∈ big := by first | exact List.mem_of_getElem? hi | exact List.getElem?_mem hi
  exact ⟨hm, good_of_word h1⟩
theorem goodIn_app {big a b : List Cond} (ha : GoodIn big a) (hb : GoodIn big b) : GoodIn big (a ++ b) := fun w h => (List.mem_append.mp h).elim (ha w) (hb w)
theorem goodIn_ca {big a b : List Cond} {c : Cond} (ha : GoodIn big (c :: a)) (hb : GoodIn big b) : GoodIn big (c :: (a ++ b)) := fun w h => (List.mem_cons.mp h).elim (fun e => ha w (List.mem_cons.mpr (Or.inl e))) (fun h => (List.mem_append.mp h).elim (fun h => ha w (List.mem_cons.mpr (Or.inr h))) (hb w))
theorem goodIn_sub {big ws : List Cond} (hm : ∀ w ∈ ws, w ∈ big) (h : ws.all goodWord = true) : GoodIn big ws := fun w hw => ⟨hm w hw, good_of_word (List.all_eq_true.mp h w hw)⟩
/-! ===== END ===== -/

def vx_no (w : Cond) : Bool := decide (w ≠ .isRef (.static Bundle.tN "UNASSIGNED_STACK" Bundle.steD)) && decide (w ≠ .isRef (.static Bundle.tN "SUPPRESSED_SENTINEL" Bundle.listD)) && decide (w ≠ .laysStatic Bundle.tN "UNASSIGNED_STACK" Bundle.steD) && decide (w ≠ .laysStatic Bundle.tN "SUPPRESSED_SENTINEL" Bundle.listD)
def vx_at0 (own : String) (ic : Nat) (X : String) (names : List String) : List Cond := (Bundle.ownAtoms0 own ic X names).filter vx_no
def vx_atS (own : String) (ic : Nat) (X : String) (names : List String) : List Cond := (Bundle.ownAtoms own ic X names).filter vx_no
end
section
/-! ===== BEGIN printed: names, fields, word lists, decode rows ===== -/
def RX0 : String := "MessageReader"
def TX0 : u_T := fun k => match k with
  | 0 => ("MessageReader", "store", "[B", true)
  | 1 => ("MessageReader", "size", "I", false)
  | 2 => ("MessageReader", "consumed", "I", false)
  | 3 => ("MessageReader", "given", "I", false)
  | 4 => ("MessageReader", "childrenLeft", "[J", true)
  | _ => ("MessageReader", "open", "I", false)
def tyX0 : Nat → FieldType := fun k => match k with
  | 0 => .array .byte
  | 1 => .int
  | 2 => .int
  | 3 => .int
  | 4 => .array .long
  | _ => .int
abbrev wsX00 : List Cond := u_ws RX0 TX0 6
theorem nmX0 : ∀ a, a < 6 → ∀ b, b < 6 → a ≠ b → (TX0 a).2.1 ≠ (TX0 b).2.1 := by decide +kernel
theorem tyX0_ok : ∀ k, k < 6 → parseFieldDescriptor (TX0 k).2.2.1 = some (tyX0 k) := by decide +kernel
abbrev cX0_init : ByteArray := prog_1_method_1_code
def yX0_init : MethodName := ⟨RX0, "<init>", "()V"⟩
abbrev cX0_feed : ByteArray := prog_1_method_2_code
def yX0_feed : MethodName := ⟨RX0, "feed", "(I)I"⟩
abbrev cX0_put : ByteArray := prog_1_method_3_code
def yX0_put : MethodName := ⟨RX0, "put", "(JI)I"⟩
abbrev cX0_cut : ByteArray := prog_1_method_4_code
def yX0_cut : MethodName := ⟨RX0, "cut", "(I)I"⟩
abbrev cX0_byteAt : ByteArray := prog_1_method_5_code
def yX0_byteAt : MethodName := ⟨RX0, "byteAt", "(I)I"⟩
abbrev cX0_next : ByteArray := prog_1_method_6_code
def yX0_next : MethodName := ⟨RX0, "next", "()I"⟩
abbrev cX0_skip : ByteArray := prog_1_method_7_code
def yX0_skip : MethodName := ⟨RX0, "skip", "()I"⟩
abbrev cX0_kind : ByteArray := prog_1_method_8_code
def yX0_kind : MethodName := ⟨RX0, "kind", "()I"⟩
abbrev cX0_valueLow : ByteArray := prog_1_method_9_code
def yX0_valueLow : MethodName := ⟨RX0, "valueLow", "()I"⟩
abbrev cX0_valueHigh : ByteArray := prog_1_method_10_code
def yX0_valueHigh : MethodName := ⟨RX0, "valueHigh", "()I"⟩
abbrev cX0_payload : ByteArray := prog_1_method_11_code
def yX0_payload : MethodName := ⟨RX0, "payload", "(I)I"⟩
abbrev cX0_level : ByteArray := prog_1_method_12_code
def yX0_level : MethodName := ⟨RX0, "level", "()I"⟩
abbrev cX0_remaining : ByteArray := prog_1_method_13_code
def yX0_remaining : MethodName := ⟨RX0, "remaining", "(I)J"⟩
abbrev cX0_consumed : ByteArray := prog_1_method_14_code
def yX0_consumed : MethodName := ⟨RX0, "consumed", "()I"⟩
abbrev cX0_whole : ByteArray := prog_1_method_15_code
def yX0_whole : MethodName := ⟨RX0, "whole", "()I"⟩
abbrev cX0_pack : ByteArray := prog_1_method_16_code
def yX0_pack : MethodName := ⟨RX0, "pack", "(III)I"⟩
abbrev cX0_hasRoom : ByteArray := prog_1_method_17_code
def yX0_hasRoom : MethodName := ⟨RX0, "hasRoom", "(I)Z"⟩
abbrev cX0_append : ByteArray := prog_1_method_18_code
def yX0_append : MethodName := ⟨RX0, "append", "(JI)V"⟩
abbrev cX0_storedByte : ByteArray := prog_1_method_19_code
def yX0_storedByte : MethodName := ⟨RX0, "storedByte", "(I)I"⟩
abbrev cX0_readNumber : ByteArray := prog_1_method_20_code
def yX0_readNumber : MethodName := ⟨RX0, "readNumber", "(II)J"⟩
abbrev cX0_kindOf : ByteArray := prog_1_method_21_code
def yX0_kindOf : MethodName := ⟨RX0, "kindOf", "(I)I"⟩
abbrev cX0_width : ByteArray := prog_1_method_22_code
def yX0_width : MethodName := ⟨RX0, "width", "(I)I"⟩
abbrev cX0_typeWidth : ByteArray := prog_1_method_23_code
def yX0_typeWidth : MethodName := ⟨RX0, "typeWidth", "(I)I"⟩
abbrev cX0_headLength : ByteArray := prog_1_method_24_code
def yX0_headLength : MethodName := ⟨RX0, "headLength", "(I)I"⟩
abbrev cX0_numberInside : ByteArray := prog_1_method_25_code
def yX0_numberInside : MethodName := ⟨RX0, "numberInside", "(I)J"⟩
abbrev cX0_kindAt : ByteArray := prog_1_method_26_code
def yX0_kindAt : MethodName := ⟨RX0, "kindAt", "(I)I"⟩
abbrev cX0_headLengthAt : ByteArray := prog_1_method_27_code
def yX0_headLengthAt : MethodName := ⟨RX0, "headLengthAt", "(I)I"⟩
abbrev cX0_numberAt : ByteArray := prog_1_method_28_code
def yX0_numberAt : MethodName := ⟨RX0, "numberAt", "(I)J"⟩
abbrev cX0_withSign : ByteArray := prog_1_method_29_code
def yX0_withSign : MethodName := ⟨RX0, "withSign", "(JI)J"⟩
abbrev cX0_typeAt : ByteArray := prog_1_method_30_code
def yX0_typeAt : MethodName := ⟨RX0, "typeAt", "(I)I"⟩
abbrev cX0_payloadLengthAt : ByteArray := prog_1_method_31_code
def yX0_payloadLengthAt : MethodName := ⟨RX0, "payloadLengthAt", "(I)I"⟩
abbrev cX0_childrenAt : ByteArray := prog_1_method_32_code
def yX0_childrenAt : MethodName := ⟨RX0, "childrenAt", "(I)J"⟩
abbrev cX0_endAt : ByteArray := prog_1_method_33_code
def yX0_endAt : MethodName := ⟨RX0, "endAt", "(I)I"⟩
abbrev cX0_hasPayload : ByteArray := prog_1_method_34_code
def yX0_hasPayload : MethodName := ⟨RX0, "hasPayload", "(I)Z"⟩
abbrev cX0_lookAt : ByteArray := prog_1_method_35_code
def yX0_lookAt : MethodName := ⟨RX0, "lookAt", "(I)I"⟩
abbrev cX0_lastHeadFrom : ByteArray := prog_1_method_36_code
def yX0_lastHeadFrom : MethodName := ⟨RX0, "lastHeadFrom", "(I)I"⟩
abbrev cX0_consume : ByteArray := prog_1_method_37_code
def yX0_consume : MethodName := ⟨RX0, "consume", "(I)V"⟩
abbrev cX0_countChild : ByteArray := prog_1_method_38_code
def yX0_countChild : MethodName := ⟨RX0, "countChild", "()V"⟩
abbrev cX0_openContainer : ByteArray := prog_1_method_39_code
def yX0_openContainer : MethodName := ⟨RX0, "openContainer", "(J)V"⟩
abbrev cX0_closeFinished : ByteArray := prog_1_method_40_code
def yX0_closeFinished : MethodName := ⟨RX0, "closeFinished", "()V"⟩
abbrev cX0_numberOf : ByteArray := prog_1_method_41_code
def yX0_numberOf : MethodName := ⟨RX0, "numberOf", "(III)J"⟩
abbrev cX0_shortestForm : ByteArray := prog_1_method_42_code
def yX0_shortestForm : MethodName := ⟨RX0, "shortestForm", "(IJ)I"⟩
abbrev cX0_extensionForm : ByteArray := prog_1_method_43_code
def yX0_extensionForm : MethodName := ⟨RX0, "extensionForm", "(J)I"⟩
abbrev cX0_unsignedStep : ByteArray := prog_1_method_44_code
def yX0_unsignedStep : MethodName := ⟨RX0, "unsignedStep", "(J)I"⟩
abbrev cX0_signedStep : ByteArray := prog_1_method_45_code
def yX0_signedStep : MethodName := ⟨RX0, "signedStep", "(J)I"⟩
abbrev cX0_countStep : ByteArray := prog_1_method_46_code
def yX0_countStep : MethodName := ⟨RX0, "countStep", "(J)I"⟩
def RX1 : String := "MessageReaderModel"
def TX1 : u_T := fun k => match k with
  | 0 => ("MessageReaderModel", "thrown", "I", false)
  | 1 => ("MessageReaderModel", "bytes", "[I", true)
  | 2 => ("MessageReaderModel", "size", "I", false)
  | 3 => ("MessageReaderModel", "consumed", "I", false)
  | 4 => ("MessageReaderModel", "sort", "I", false)
  | 5 => ("MessageReaderModel", "number", "J", false)
  | 6 => ("MessageReaderModel", "type", "I", false)
  | 7 => ("MessageReaderModel", "head", "I", false)
  | 8 => ("MessageReaderModel", "payload", "J", false)
  | 9 => ("MessageReaderModel", "children", "J", false)
  | 10 => ("MessageReaderModel", "lastKind", "I", false)
  | 11 => ("MessageReaderModel", "low", "I", false)
  | 12 => ("MessageReaderModel", "high", "I", false)
  | 13 => ("MessageReaderModel", "lastPayload", "I", false)
  | 14 => ("MessageReaderModel", "lastLength", "I", false)
  | 15 => ("MessageReaderModel", "open", "[J", true)
  | _ => ("MessageReaderModel", "level", "I", false)
def tyX1 : Nat → FieldType := fun k => match k with
  | 0 => .int
  | 1 => .array .int
  | 2 => .int
  | 3 => .int
  | 4 => .int
  | 5 => .long
  | 6 => .int
  | 7 => .int
  | 8 => .long
  | 9 => .long
  | 10 => .int
  | 11 => .int
  | 12 => .int
  | 13 => .int
  | 14 => .int
  | 15 => .array .long
  | _ => .int
abbrev wsX10 : List Cond := u_ws RX1 TX1 17
theorem nmX1 : ∀ a, a < 17 → ∀ b, b < 17 → a ≠ b → (TX1 a).2.1 ≠ (TX1 b).2.1 := by decide +kernel
theorem tyX1_ok : ∀ k, k < 17 → parseFieldDescriptor (TX1 k).2.2.1 = some (tyX1 k) := by decide +kernel
abbrev cX1_init : ByteArray := prog_3_method_1_code
def yX1_init : MethodName := ⟨RX1, "<init>", "()V"⟩
abbrev cX1_thrown : ByteArray := prog_3_method_2_code
def yX1_thrown : MethodName := ⟨RX1, "thrown", "()I"⟩
abbrev cX1_fails : ByteArray := prog_3_method_3_code
def yX1_fails : MethodName := ⟨RX1, "fails", "(ZI)Z"⟩
abbrev cX1_feed : ByteArray := prog_3_method_4_code
def yX1_feed : MethodName := ⟨RX1, "feed", "(I)I"⟩
abbrev cX1_write : ByteArray := prog_3_method_5_code
def yX1_write : MethodName := ⟨RX1, "write", "(JI)V"⟩
abbrev cX1_put : ByteArray := prog_3_method_6_code
def yX1_put : MethodName := ⟨RX1, "put", "(JI)I"⟩
abbrev cX1_cut : ByteArray := prog_3_method_7_code
def yX1_cut : MethodName := ⟨RX1, "cut", "(I)I"⟩
abbrev cX1_byteAt : ByteArray := prog_3_method_8_code
def yX1_byteAt : MethodName := ⟨RX1, "byteAt", "(I)I"⟩
abbrev cX1_numberAt : ByteArray := prog_3_method_9_code
def yX1_numberAt : MethodName := ⟨RX1, "numberAt", "(II)J"⟩
abbrev cX1_widthOf : ByteArray := prog_3_method_10_code
def yX1_widthOf : MethodName := ⟨RX1, "widthOf", "(I)I"⟩
abbrev cX1_kindOf : ByteArray := prog_3_method_11_code
def yX1_kindOf : MethodName := ⟨RX1, "kindOf", "(I)I"⟩
abbrev cX1_ownNumber : ByteArray := prog_3_method_12_code
def yX1_ownNumber : MethodName := ⟨RX1, "ownNumber", "(I)J"⟩
abbrev cX1_look : ByteArray := prog_3_method_13_code
def yX1_look : MethodName := ⟨RX1, "look", "(I)I"⟩
abbrev cX1_give : ByteArray := prog_3_method_14_code
def yX1_give : MethodName := ⟨RX1, "give", "(I)V"⟩
abbrev cX1_closeDone : ByteArray := prog_3_method_15_code
def yX1_closeDone : MethodName := ⟨RX1, "closeDone", "()V"⟩
abbrev cX1_next : ByteArray := prog_3_method_16_code
def yX1_next : MethodName := ⟨RX1, "next", "()I"⟩
abbrev cX1_end : ByteArray := prog_3_method_17_code
def yX1_end : MethodName := ⟨RX1, "end", "(I)I"⟩
abbrev cX1_skip : ByteArray := prog_3_method_18_code
def yX1_skip : MethodName := ⟨RX1, "skip", "()I"⟩
abbrev cX1_kind : ByteArray := prog_3_method_19_code
def yX1_kind : MethodName := ⟨RX1, "kind", "()I"⟩
abbrev cX1_valueLow : ByteArray := prog_3_method_20_code
def yX1_valueLow : MethodName := ⟨RX1, "valueLow", "()I"⟩
abbrev cX1_valueHigh : ByteArray := prog_3_method_21_code
def yX1_valueHigh : MethodName := ⟨RX1, "valueHigh", "()I"⟩
abbrev cX1_payload : ByteArray := prog_3_method_22_code
def yX1_payload : MethodName := ⟨RX1, "payload", "(I)I"⟩
abbrev cX1_level : ByteArray := prog_3_method_23_code
def yX1_level : MethodName := ⟨RX1, "level", "()I"⟩
abbrev cX1_remaining : ByteArray := prog_3_method_24_code
def yX1_remaining : MethodName := ⟨RX1, "remaining", "(I)J"⟩
abbrev cX1_consumed : ByteArray := prog_3_method_25_code
def yX1_consumed : MethodName := ⟨RX1, "consumed", "()I"⟩
abbrev cX1_whole : ByteArray := prog_3_method_26_code
def yX1_whole : MethodName := ⟨RX1, "whole", "()I"⟩
abbrev cX1_packHead : ByteArray := prog_3_method_27_code
def yX1_packHead : MethodName := ⟨RX1, "packHead", "(IIJI)I"⟩
abbrev cX1_log : ByteArray := prog_3_method_28_code
def yX1_log : MethodName := ⟨RX1, "log", "(I)I"⟩
abbrev cX1_needs : ByteArray := prog_3_method_29_code
def yX1_needs : MethodName := ⟨RX1, "needs", "(J)I"⟩
abbrev cX1_needsSigned : ByteArray := prog_3_method_30_code
def yX1_needsSigned : MethodName := ⟨RX1, "needsSigned", "(J)I"⟩
abbrev cX1_pack : ByteArray := prog_3_method_31_code
def yX1_pack : MethodName := ⟨RX1, "pack", "(III)I"⟩
def RJ0 : String := "java/lang/String"
def TJ0 : u_T := fun k => match k with
  | _ => ("", "", "", false)
def tyJ0 : Nat → FieldType := fun k => match k with
  | _ => .int
abbrev wsJ00 : List Cond := u_ws RJ0 TJ0 0
theorem nmJ0 : ∀ a, a < 0 → ∀ b, b < 0 → a ≠ b → (TJ0 a).2.1 ≠ (TJ0 b).2.1 := by decide +kernel
theorem tyJ0_ok : ∀ k, k < 0 → parseFieldDescriptor (TJ0 k).2.2.1 = some (tyJ0 k) := by decide +kernel
def RL : String := "MessageReaderLaw"
abbrev cL_feed : ByteArray := method_3_code
def yL_feed : MethodName := ⟨RL, "feed", "(LMessageReader;I[J)I"⟩
abbrev cL_put : ByteArray := method_4_code
def yL_put : MethodName := ⟨RL, "put", "(LMessageReader;JI[J)I"⟩
abbrev cL_cut : ByteArray := method_5_code
def yL_cut : MethodName := ⟨RL, "cut", "(LMessageReader;I[J)I"⟩
abbrev cL_byteAt : ByteArray := method_6_code
def yL_byteAt : MethodName := ⟨RL, "byteAt", "(LMessageReader;I[J)I"⟩
abbrev cL_remaining : ByteArray := method_7_code
def yL_remaining : MethodName := ⟨RL, "remaining", "(LMessageReader;I[J)I"⟩
abbrev cL_pack : ByteArray := method_8_code
def yL_pack : MethodName := ⟨RL, "pack", "(LMessageReader;III[J)I"⟩
abbrev cL_law : ByteArray := code
def yL_law : MethodName := ⟨RL, "law", "([I)Z"⟩
def wsX0_init : List Cond := .code yX0_init cX0_init 1 none :: ([.methodLink RX0 1 objectInit, .instanceMethod objectInit, .code objectInit ⟨#[0xb1]⟩ 1 none, .arrayClass .byte, .fieldLink RX0 9 "MessageReader" "store" "[B", .fieldLink RX0 13 "MessageReader" "size" "I", .fieldLink RX0 17 "MessageReader" "consumed" "I", .fieldLink RX0 20 "MessageReader" "given" "I", .arrayClass .long, .fieldLink RX0 23 "MessageReader" "childrenLeft" "[J", .fieldLink RX0 27 "MessageReader" "open" "I"] ++ wsX00)
def wsX0_hasRoom : List Cond := .code yX0_hasRoom cX0_hasRoom 2 (some .boolean) :: ([.fieldLink RX0 13 "MessageReader" "size" "I"] ++ wsX00)
def wsX0_append : List Cond := .code yX0_append cX0_append 5 none :: ([.fieldLink RX0 9 "MessageReader" "store" "[B", .fieldLink RX0 13 "MessageReader" "size" "I"] ++ wsX00)
def wsX0_feed : List Cond := .code yX0_feed cX0_feed 2 (some .int) :: ([.classLink RX0 30 "java/lang/IllegalArgumentException", .initialized "java/lang/IllegalArgumentException", .classLink RX0 41 "java/lang/IllegalStateException", .initialized "java/lang/IllegalStateException", .fieldLink RX0 13 "MessageReader" "size" "I", .methodLink RX0 37 yX0_hasRoom, .instanceMethod yX0_hasRoom, .selects RX0 yX0_hasRoom yX0_hasRoom, .initialized RX0, .code yX0_hasRoom cX0_hasRoom 2 (some .boolean), .methodLink RX0 46 yX0_append, .instanceMethod yX0_append, .selects RX0 yX0_append yX0_append, .code yX0_append cX0_append 5 none, .fieldLink RX0 9 "MessageReader" "store" "[B"] ++ wsX00 ++ (vx_atS RX0 34 "java/lang/IllegalArgumentException" ["java/lang/RuntimeException", "java/lang/Exception"]).filter goodWord ++ (vx_atS RX0 45 "java/lang/IllegalStateException" ["java/lang/RuntimeException", "java/lang/Exception"]).filter goodWord)
def wsX0_put : List Cond := .code yX0_put cX0_put 4 (some .int) :: ([.classLink RX0 30 "java/lang/IllegalArgumentException", .initialized "java/lang/IllegalArgumentException", .classLink RX0 41 "java/lang/IllegalStateException", .initialized "java/lang/IllegalStateException", .fieldLink RX0 13 "MessageReader" "size" "I", .methodLink RX0 37 yX0_hasRoom, .instanceMethod yX0_hasRoom, .selects RX0 yX0_hasRoom yX0_hasRoom, .initialized RX0, .code yX0_hasRoom cX0_hasRoom 2 (some .boolean), .methodLink RX0 46 yX0_append, .instanceMethod yX0_append, .selects RX0 yX0_append yX0_append, .code yX0_append cX0_append 5 none, .fieldLink RX0 9 "MessageReader" "store" "[B"] ++ wsX00 ++ (vx_atS RX0 34 "java/lang/IllegalArgumentException" ["java/lang/RuntimeException", "java/lang/Exception"]).filter goodWord ++ (vx_atS RX0 45 "java/lang/IllegalStateException" ["java/lang/RuntimeException", "java/lang/Exception"]).filter goodWord)
def wsX0_cut : List Cond := .code yX0_cut cX0_cut 2 (some .int) :: ([.classLink RX0 30 "java/lang/IllegalArgumentException", .initialized "java/lang/IllegalArgumentException", .fieldLink RX0 13 "MessageReader" "size" "I", .fieldLink RX0 17 "MessageReader" "consumed" "I"] ++ wsX00 ++ (vx_atS RX0 34 "java/lang/IllegalArgumentException" ["java/lang/RuntimeException", "java/lang/Exception"]).filter goodWord)
def wsX0_storedByte : List Cond := .code yX0_storedByte cX0_storedByte 2 (some .int) :: ([.fieldLink RX0 9 "MessageReader" "store" "[B"] ++ wsX00)
def wsX0_byteAt : List Cond := .code yX0_byteAt cX0_byteAt 2 (some .int) :: ([.classLink RX0 30 "java/lang/IllegalArgumentException", .initialized "java/lang/IllegalArgumentException", .fieldLink RX0 13 "MessageReader" "size" "I", .methodLink RX0 58 yX0_storedByte, .instanceMethod yX0_storedByte, .selects RX0 yX0_storedByte yX0_storedByte, .initialized RX0, .code yX0_storedByte cX0_storedByte 2 (some .int), .fieldLink RX0 9 "MessageReader" "store" "[B"] ++ wsX00 ++ (vx_atS RX0 34 "java/lang/IllegalArgumentException" ["java/lang/RuntimeException", "java/lang/Exception"]).filter goodWord)
def wsX0_width : List Cond := .code yX0_width cX0_width 1 (some .int) :: ([.fieldLink RX0 137 "MessageReader" "ROW_WIDTH" "[I"])
def wsX0_kindOf : List Cond := .code yX0_kindOf cX0_kindOf 1 (some .int) :: ([.fieldLink RX0 133 "MessageReader" "ROW_KIND" "[I"])
def wsX0_typeWidth : List Cond := .code yX0_typeWidth cX0_typeWidth 1 (some .int) :: ([.methodLink RX0 140 yX0_kindOf, .static yX0_kindOf, .initialized RX0, .code yX0_kindOf cX0_kindOf 1 (some .int), .fieldLink RX0 133 "MessageReader" "ROW_KIND" "[I"])
def wsX0_headLength : List Cond := .code yX0_headLength cX0_headLength 1 (some .int) :: ([.methodLink RX0 127 yX0_width, .static yX0_width, .initialized RX0, .code yX0_width cX0_width 1 (some .int), .fieldLink RX0 137 "MessageReader" "ROW_WIDTH" "[I", .methodLink RX0 130 yX0_typeWidth, .static yX0_typeWidth, .code yX0_typeWidth cX0_typeWidth 1 (some .int), .methodLink RX0 140 yX0_kindOf, .static yX0_kindOf, .code yX0_kindOf cX0_kindOf 1 (some .int), .fieldLink RX0 133 "MessageReader" "ROW_KIND" "[I"])
def wsX0_numberInside : List Cond := .code yX0_numberInside cX0_numberInside 1 (some .long) :: ([.methodLink RX0 140 yX0_kindOf, .static yX0_kindOf, .initialized RX0, .code yX0_kindOf cX0_kindOf 1 (some .int), .fieldLink RX0 133 "MessageReader" "ROW_KIND" "[I"])
def wsX0_readNumber : List Cond := .code yX0_readNumber cX0_readNumber 6 (some .long) :: ([.methodLink RX0 58 yX0_storedByte, .instanceMethod yX0_storedByte, .selects RX0 yX0_storedByte yX0_storedByte, .initialized RX0, .code yX0_storedByte cX0_storedByte 2 (some .int), .fieldLink RX0 9 "MessageReader" "store" "[B"] ++ wsX00)
def wsX0_withSign : List Cond := .code yX0_withSign cX0_withSign 4 (some .long) :: ([])
def wsX0_numberAt : List Cond := .code yX0_numberAt cX0_numberAt 6 (some .long) :: ([.methodLink RX0 58 yX0_storedByte, .instanceMethod yX0_storedByte, .selects RX0 yX0_storedByte yX0_storedByte, .initialized RX0, .code yX0_storedByte cX0_storedByte 2 (some .int), .fieldLink RX0 9 "MessageReader" "store" "[B", .methodLink RX0 127 yX0_width, .static yX0_width, .code yX0_width cX0_width 1 (some .int), .fieldLink RX0 137 "MessageReader" "ROW_WIDTH" "[I", .methodLink RX0 143 yX0_numberInside, .static yX0_numberInside, .code yX0_numberInside cX0_numberInside 1 (some .long), .methodLink RX0 140 yX0_kindOf, .static yX0_kindOf, .code yX0_kindOf cX0_kindOf 1 (some .int), .fieldLink RX0 133 "MessageReader" "ROW_KIND" "[I", .methodLink RX0 146 yX0_readNumber, .instanceMethod yX0_readNumber, .selects RX0 yX0_readNumber yX0_readNumber, .code yX0_readNumber cX0_readNumber 6 (some .long), .methodLink RX0 150 yX0_withSign, .static yX0_withSign, .code yX0_withSign cX0_withSign 4 (some .long)] ++ wsX00)
def wsX0_kindAt : List Cond := .code yX0_kindAt cX0_kindAt 2 (some .int) :: ([.methodLink RX0 58 yX0_storedByte, .instanceMethod yX0_storedByte, .selects RX0 yX0_storedByte yX0_storedByte, .initialized RX0, .code yX0_storedByte cX0_storedByte 2 (some .int), .fieldLink RX0 9 "MessageReader" "store" "[B", .methodLink RX0 140 yX0_kindOf, .static yX0_kindOf, .code yX0_kindOf cX0_kindOf 1 (some .int), .fieldLink RX0 133 "MessageReader" "ROW_KIND" "[I"] ++ wsX00)
def wsX0_hasPayload : List Cond := .code yX0_hasPayload cX0_hasPayload 1 (some .boolean) :: ([])
def wsX0_payloadLengthAt_r1 : List Cond := [Cond.methodLink RX0 86 yX0_kindAt, Cond.instanceMethod yX0_kindAt, Cond.selects RX0 yX0_kindAt yX0_kindAt, Cond.initialized RX0, Cond.code yX0_kindAt cX0_kindAt 2 (some .int), Cond.methodLink RX0 58 yX0_storedByte, Cond.instanceMethod yX0_storedByte, Cond.selects RX0 yX0_storedByte yX0_storedByte, Cond.code yX0_storedByte cX0_storedByte 2 (some .int), Cond.fieldLink RX0 9 "MessageReader" "store" "[B", Cond.methodLink RX0 140 yX0_kindOf, Cond.static yX0_kindOf, Cond.code yX0_kindOf cX0_kindOf 1 (some .int), Cond.fieldLink RX0 133 "MessageReader" "ROW_KIND" "[I", Cond.methodLink RX0 154 yX0_hasPayload, Cond.static yX0_hasPayload, Cond.code yX0_hasPayload cX0_hasPayload 1 (some .boolean), Cond.methodLink RX0 89 yX0_numberAt, Cond.instanceMethod yX0_numberAt, Cond.selects RX0 yX0_numberAt yX0_numberAt, Cond.code yX0_numberAt cX0_numberAt 6 (some .long), Cond.methodLink RX0 127 yX0_width, Cond.static yX0_width, Cond.code yX0_width cX0_width 1 (some .int)]
def wsX0_payloadLengthAt_r2 : List Cond := [Cond.fieldLink RX0 137 "MessageReader" "ROW_WIDTH" "[I", Cond.methodLink RX0 143 yX0_numberInside, Cond.static yX0_numberInside, Cond.code yX0_numberInside cX0_numberInside 1 (some .long), Cond.methodLink RX0 146 yX0_readNumber, Cond.instanceMethod yX0_readNumber, Cond.selects RX0 yX0_readNumber yX0_readNumber, Cond.code yX0_readNumber cX0_readNumber 6 (some .long), Cond.methodLink RX0 150 yX0_withSign, Cond.static yX0_withSign, Cond.code yX0_withSign cX0_withSign 4 (some .long)]
def wsX0_payloadLengthAt : List Cond := .code yX0_payloadLengthAt cX0_payloadLengthAt 2 (some .int) :: ((wsX0_payloadLengthAt_r1 ++ wsX0_payloadLengthAt_r2) ++ wsX00)
def wsX0_lookAt_r1 : List Cond := [Cond.fieldLink RX0 13 "MessageReader" "size" "I", Cond.constantLong RX0 159 (2147483647), Cond.methodLink RX0 58 yX0_storedByte, Cond.instanceMethod yX0_storedByte, Cond.selects RX0 yX0_storedByte yX0_storedByte, Cond.initialized RX0, Cond.code yX0_storedByte cX0_storedByte 2 (some .int), Cond.fieldLink RX0 9 "MessageReader" "store" "[B", Cond.methodLink RX0 122 yX0_headLength, Cond.static yX0_headLength, Cond.code yX0_headLength cX0_headLength 1 (some .int), Cond.methodLink RX0 127 yX0_width, Cond.static yX0_width, Cond.code yX0_width cX0_width 1 (some .int), Cond.fieldLink RX0 137 "MessageReader" "ROW_WIDTH" "[I", Cond.methodLink RX0 130 yX0_typeWidth, Cond.static yX0_typeWidth, Cond.code yX0_typeWidth cX0_typeWidth 1 (some .int), Cond.methodLink RX0 140 yX0_kindOf, Cond.static yX0_kindOf, Cond.code yX0_kindOf cX0_kindOf 1 (some .int), Cond.fieldLink RX0 133 "MessageReader" "ROW_KIND" "[I", Cond.methodLink RX0 89 yX0_numberAt, Cond.instanceMethod yX0_numberAt]
def wsX0_lookAt_r2 : List Cond := [Cond.selects RX0 yX0_numberAt yX0_numberAt, Cond.code yX0_numberAt cX0_numberAt 6 (some .long), Cond.methodLink RX0 143 yX0_numberInside, Cond.static yX0_numberInside, Cond.code yX0_numberInside cX0_numberInside 1 (some .long), Cond.methodLink RX0 146 yX0_readNumber, Cond.instanceMethod yX0_readNumber, Cond.selects RX0 yX0_readNumber yX0_readNumber, Cond.code yX0_readNumber cX0_readNumber 6 (some .long), Cond.methodLink RX0 150 yX0_withSign, Cond.static yX0_withSign, Cond.code yX0_withSign cX0_withSign 4 (some .long), Cond.methodLink RX0 95 yX0_payloadLengthAt, Cond.instanceMethod yX0_payloadLengthAt, Cond.selects RX0 yX0_payloadLengthAt yX0_payloadLengthAt, Cond.code yX0_payloadLengthAt cX0_payloadLengthAt 2 (some .int), Cond.methodLink RX0 86 yX0_kindAt, Cond.instanceMethod yX0_kindAt, Cond.selects RX0 yX0_kindAt yX0_kindAt, Cond.code yX0_kindAt cX0_kindAt 2 (some .int), Cond.methodLink RX0 154 yX0_hasPayload, Cond.static yX0_hasPayload, Cond.code yX0_hasPayload cX0_hasPayload 1 (some .boolean)]
def wsX0_lookAt : List Cond := .code yX0_lookAt cX0_lookAt 5 (some .int) :: ((wsX0_lookAt_r1 ++ wsX0_lookAt_r2) ++ wsX00)
def wsX0_childrenAt_r1 : List Cond := [Cond.constantLong RX0 157 (2), Cond.methodLink RX0 86 yX0_kindAt, Cond.instanceMethod yX0_kindAt, Cond.selects RX0 yX0_kindAt yX0_kindAt, Cond.initialized RX0, Cond.code yX0_kindAt cX0_kindAt 2 (some .int), Cond.methodLink RX0 58 yX0_storedByte, Cond.instanceMethod yX0_storedByte, Cond.selects RX0 yX0_storedByte yX0_storedByte, Cond.code yX0_storedByte cX0_storedByte 2 (some .int), Cond.fieldLink RX0 9 "MessageReader" "store" "[B", Cond.methodLink RX0 140 yX0_kindOf, Cond.static yX0_kindOf, Cond.code yX0_kindOf cX0_kindOf 1 (some .int), Cond.fieldLink RX0 133 "MessageReader" "ROW_KIND" "[I", Cond.methodLink RX0 89 yX0_numberAt, Cond.instanceMethod yX0_numberAt, Cond.selects RX0 yX0_numberAt yX0_numberAt, Cond.code yX0_numberAt cX0_numberAt 6 (some .long), Cond.methodLink RX0 127 yX0_width, Cond.static yX0_width, Cond.code yX0_width cX0_width 1 (some .int), Cond.fieldLink RX0 137 "MessageReader" "ROW_WIDTH" "[I", Cond.methodLink RX0 143 yX0_numberInside]
def wsX0_childrenAt_r2 : List Cond := [Cond.static yX0_numberInside, Cond.code yX0_numberInside cX0_numberInside 1 (some .long), Cond.methodLink RX0 146 yX0_readNumber, Cond.instanceMethod yX0_readNumber, Cond.selects RX0 yX0_readNumber yX0_readNumber, Cond.code yX0_readNumber cX0_readNumber 6 (some .long), Cond.methodLink RX0 150 yX0_withSign, Cond.static yX0_withSign, Cond.code yX0_withSign cX0_withSign 4 (some .long)]
def wsX0_childrenAt : List Cond := .code yX0_childrenAt cX0_childrenAt 2 (some .long) :: ((wsX0_childrenAt_r1 ++ wsX0_childrenAt_r2) ++ wsX00)
def wsX0_countChild : List Cond := .code yX0_countChild cX0_countChild 1 none :: ([.fieldLink RX0 27 "MessageReader" "open" "I", .fieldLink RX0 23 "MessageReader" "childrenLeft" "[J"] ++ wsX00)
def wsX0_openContainer : List Cond := .code yX0_openContainer cX0_openContainer 3 none :: ([.fieldLink RX0 27 "MessageReader" "open" "I", .fieldLink RX0 23 "MessageReader" "childrenLeft" "[J"] ++ wsX00)
def wsX0_closeFinished : List Cond := .code yX0_closeFinished cX0_closeFinished 1 none :: ([.fieldLink RX0 27 "MessageReader" "open" "I", .fieldLink RX0 23 "MessageReader" "childrenLeft" "[J"] ++ wsX00)
def wsX0_headLengthAt : List Cond := .code yX0_headLengthAt cX0_headLengthAt 2 (some .int) :: ([.methodLink RX0 58 yX0_storedByte, .instanceMethod yX0_storedByte, .selects RX0 yX0_storedByte yX0_storedByte, .initialized RX0, .code yX0_storedByte cX0_storedByte 2 (some .int), .fieldLink RX0 9 "MessageReader" "store" "[B", .methodLink RX0 122 yX0_headLength, .static yX0_headLength, .code yX0_headLength cX0_headLength 1 (some .int), .methodLink RX0 127 yX0_width, .static yX0_width, .code yX0_width cX0_width 1 (some .int), .fieldLink RX0 137 "MessageReader" "ROW_WIDTH" "[I", .methodLink RX0 130 yX0_typeWidth, .static yX0_typeWidth, .code yX0_typeWidth cX0_typeWidth 1 (some .int), .methodLink RX0 140 yX0_kindOf, .static yX0_kindOf, .code yX0_kindOf cX0_kindOf 1 (some .int), .fieldLink RX0 133 "MessageReader" "ROW_KIND" "[I"] ++ wsX00)
def wsX0_endAt_r1 : List Cond := [Cond.methodLink RX0 98 yX0_headLengthAt, Cond.instanceMethod yX0_headLengthAt, Cond.selects RX0 yX0_headLengthAt yX0_headLengthAt, Cond.initialized RX0, Cond.code yX0_headLengthAt cX0_headLengthAt 2 (some .int), Cond.methodLink RX0 58 yX0_storedByte, Cond.instanceMethod yX0_storedByte, Cond.selects RX0 yX0_storedByte yX0_storedByte, Cond.code yX0_storedByte cX0_storedByte 2 (some .int), Cond.fieldLink RX0 9 "MessageReader" "store" "[B", Cond.methodLink RX0 122 yX0_headLength, Cond.static yX0_headLength, Cond.code yX0_headLength cX0_headLength 1 (some .int), Cond.methodLink RX0 127 yX0_width, Cond.static yX0_width, Cond.code yX0_width cX0_width 1 (some .int), Cond.fieldLink RX0 137 "MessageReader" "ROW_WIDTH" "[I", Cond.methodLink RX0 130 yX0_typeWidth, Cond.static yX0_typeWidth, Cond.code yX0_typeWidth cX0_typeWidth 1 (some .int), Cond.methodLink RX0 140 yX0_kindOf, Cond.static yX0_kindOf, Cond.code yX0_kindOf cX0_kindOf 1 (some .int), Cond.fieldLink RX0 133 "MessageReader" "ROW_KIND" "[I"]
def wsX0_endAt_r2 : List Cond := [Cond.methodLink RX0 95 yX0_payloadLengthAt, Cond.instanceMethod yX0_payloadLengthAt, Cond.selects RX0 yX0_payloadLengthAt yX0_payloadLengthAt, Cond.code yX0_payloadLengthAt cX0_payloadLengthAt 2 (some .int), Cond.methodLink RX0 86 yX0_kindAt, Cond.instanceMethod yX0_kindAt, Cond.selects RX0 yX0_kindAt yX0_kindAt, Cond.code yX0_kindAt cX0_kindAt 2 (some .int), Cond.methodLink RX0 154 yX0_hasPayload, Cond.static yX0_hasPayload, Cond.code yX0_hasPayload cX0_hasPayload 1 (some .boolean), Cond.methodLink RX0 89 yX0_numberAt, Cond.instanceMethod yX0_numberAt, Cond.selects RX0 yX0_numberAt yX0_numberAt, Cond.code yX0_numberAt cX0_numberAt 6 (some .long), Cond.methodLink RX0 143 yX0_numberInside, Cond.static yX0_numberInside, Cond.code yX0_numberInside cX0_numberInside 1 (some .long), Cond.methodLink RX0 146 yX0_readNumber, Cond.instanceMethod yX0_readNumber, Cond.selects RX0 yX0_readNumber yX0_readNumber, Cond.code yX0_readNumber cX0_readNumber 6 (some .long), Cond.methodLink RX0 150 yX0_withSign, Cond.static yX0_withSign]
def wsX0_endAt_r3 : List Cond := [Cond.code yX0_withSign cX0_withSign 4 (some .long)]
def wsX0_endAt : List Cond := .code yX0_endAt cX0_endAt 2 (some .int) :: ((wsX0_endAt_r1 ++ (wsX0_endAt_r2 ++ wsX0_endAt_r3)) ++ wsX00)
def wsX0_consume_r1 : List Cond := [Cond.fieldLink RX0 20 "MessageReader" "given" "I", Cond.fieldLink RX0 17 "MessageReader" "consumed" "I", Cond.methodLink RX0 105 yX0_endAt, Cond.instanceMethod yX0_endAt, Cond.selects RX0 yX0_endAt yX0_endAt, Cond.initialized RX0, Cond.code yX0_endAt cX0_endAt 2 (some .int), Cond.methodLink RX0 98 yX0_headLengthAt, Cond.instanceMethod yX0_headLengthAt, Cond.selects RX0 yX0_headLengthAt yX0_headLengthAt, Cond.code yX0_headLengthAt cX0_headLengthAt 2 (some .int), Cond.methodLink RX0 58 yX0_storedByte, Cond.instanceMethod yX0_storedByte, Cond.selects RX0 yX0_storedByte yX0_storedByte, Cond.code yX0_storedByte cX0_storedByte 2 (some .int), Cond.fieldLink RX0 9 "MessageReader" "store" "[B", Cond.methodLink RX0 122 yX0_headLength, Cond.static yX0_headLength, Cond.code yX0_headLength cX0_headLength 1 (some .int), Cond.methodLink RX0 127 yX0_width, Cond.static yX0_width, Cond.code yX0_width cX0_width 1 (some .int), Cond.fieldLink RX0 137 "MessageReader" "ROW_WIDTH" "[I", Cond.methodLink RX0 130 yX0_typeWidth]
def wsX0_consume_r2 : List Cond := [Cond.static yX0_typeWidth, Cond.code yX0_typeWidth cX0_typeWidth 1 (some .int), Cond.methodLink RX0 140 yX0_kindOf, Cond.static yX0_kindOf, Cond.code yX0_kindOf cX0_kindOf 1 (some .int), Cond.fieldLink RX0 133 "MessageReader" "ROW_KIND" "[I", Cond.methodLink RX0 95 yX0_payloadLengthAt, Cond.instanceMethod yX0_payloadLengthAt, Cond.selects RX0 yX0_payloadLengthAt yX0_payloadLengthAt, Cond.code yX0_payloadLengthAt cX0_payloadLengthAt 2 (some .int), Cond.methodLink RX0 86 yX0_kindAt, Cond.instanceMethod yX0_kindAt, Cond.selects RX0 yX0_kindAt yX0_kindAt, Cond.code yX0_kindAt cX0_kindAt 2 (some .int), Cond.methodLink RX0 154 yX0_hasPayload, Cond.static yX0_hasPayload, Cond.code yX0_hasPayload cX0_hasPayload 1 (some .boolean), Cond.methodLink RX0 89 yX0_numberAt, Cond.instanceMethod yX0_numberAt, Cond.selects RX0 yX0_numberAt yX0_numberAt, Cond.code yX0_numberAt cX0_numberAt 6 (some .long), Cond.methodLink RX0 143 yX0_numberInside, Cond.static yX0_numberInside, Cond.code yX0_numberInside cX0_numberInside 1 (some .long)]
def wsX0_consume_r3 : List Cond := [Cond.methodLink RX0 146 yX0_readNumber, Cond.instanceMethod yX0_readNumber, Cond.selects RX0 yX0_readNumber yX0_readNumber, Cond.code yX0_readNumber cX0_readNumber 6 (some .long), Cond.methodLink RX0 150 yX0_withSign, Cond.static yX0_withSign, Cond.code yX0_withSign cX0_withSign 4 (some .long)]
def wsX0_consume : List Cond := .code yX0_consume cX0_consume 2 none :: ((wsX0_consume_r1 ++ (wsX0_consume_r2 ++ wsX0_consume_r3)) ++ wsX00)
def wsX0_next_r1 : List Cond := [Cond.fieldLink RX0 17 "MessageReader" "consumed" "I", Cond.fieldLink RX0 27 "MessageReader" "open" "I", Cond.methodLink RX0 62 yX0_lookAt, Cond.instanceMethod yX0_lookAt, Cond.selects RX0 yX0_lookAt yX0_lookAt, Cond.initialized RX0, Cond.code yX0_lookAt cX0_lookAt 5 (some .int), Cond.fieldLink RX0 13 "MessageReader" "size" "I", Cond.constantLong RX0 159 (2147483647), Cond.methodLink RX0 58 yX0_storedByte, Cond.instanceMethod yX0_storedByte, Cond.selects RX0 yX0_storedByte yX0_storedByte, Cond.code yX0_storedByte cX0_storedByte 2 (some .int), Cond.fieldLink RX0 9 "MessageReader" "store" "[B", Cond.methodLink RX0 122 yX0_headLength, Cond.static yX0_headLength, Cond.code yX0_headLength cX0_headLength 1 (some .int), Cond.methodLink RX0 127 yX0_width, Cond.static yX0_width, Cond.code yX0_width cX0_width 1 (some .int), Cond.fieldLink RX0 137 "MessageReader" "ROW_WIDTH" "[I", Cond.methodLink RX0 130 yX0_typeWidth, Cond.static yX0_typeWidth, Cond.code yX0_typeWidth cX0_typeWidth 1 (some .int)]
def wsX0_next_r2 : List Cond := [Cond.methodLink RX0 140 yX0_kindOf, Cond.static yX0_kindOf, Cond.code yX0_kindOf cX0_kindOf 1 (some .int), Cond.fieldLink RX0 133 "MessageReader" "ROW_KIND" "[I", Cond.methodLink RX0 89 yX0_numberAt, Cond.instanceMethod yX0_numberAt, Cond.selects RX0 yX0_numberAt yX0_numberAt, Cond.code yX0_numberAt cX0_numberAt 6 (some .long), Cond.methodLink RX0 143 yX0_numberInside, Cond.static yX0_numberInside, Cond.code yX0_numberInside cX0_numberInside 1 (some .long), Cond.methodLink RX0 146 yX0_readNumber, Cond.instanceMethod yX0_readNumber, Cond.selects RX0 yX0_readNumber yX0_readNumber, Cond.code yX0_readNumber cX0_readNumber 6 (some .long), Cond.methodLink RX0 150 yX0_withSign, Cond.static yX0_withSign, Cond.code yX0_withSign cX0_withSign 4 (some .long), Cond.methodLink RX0 95 yX0_payloadLengthAt, Cond.instanceMethod yX0_payloadLengthAt, Cond.selects RX0 yX0_payloadLengthAt yX0_payloadLengthAt, Cond.code yX0_payloadLengthAt cX0_payloadLengthAt 2 (some .int), Cond.methodLink RX0 86 yX0_kindAt, Cond.instanceMethod yX0_kindAt]
def wsX0_next_r3 : List Cond := [Cond.selects RX0 yX0_kindAt yX0_kindAt, Cond.code yX0_kindAt cX0_kindAt 2 (some .int), Cond.methodLink RX0 154 yX0_hasPayload, Cond.static yX0_hasPayload, Cond.code yX0_hasPayload cX0_hasPayload 1 (some .boolean), Cond.methodLink RX0 65 yX0_childrenAt, Cond.instanceMethod yX0_childrenAt, Cond.selects RX0 yX0_childrenAt yX0_childrenAt, Cond.code yX0_childrenAt cX0_childrenAt 2 (some .long), Cond.constantLong RX0 157 (2), Cond.methodLink RX0 69 yX0_countChild, Cond.instanceMethod yX0_countChild, Cond.selects RX0 yX0_countChild yX0_countChild, Cond.code yX0_countChild cX0_countChild 1 none, Cond.fieldLink RX0 23 "MessageReader" "childrenLeft" "[J", Cond.methodLink RX0 72 yX0_openContainer, Cond.instanceMethod yX0_openContainer, Cond.selects RX0 yX0_openContainer yX0_openContainer, Cond.code yX0_openContainer cX0_openContainer 3 none, Cond.methodLink RX0 76 yX0_closeFinished, Cond.instanceMethod yX0_closeFinished, Cond.selects RX0 yX0_closeFinished yX0_closeFinished, Cond.code yX0_closeFinished cX0_closeFinished 1 none, Cond.methodLink RX0 79 yX0_consume]
def wsX0_next_r4 : List Cond := [Cond.instanceMethod yX0_consume, Cond.selects RX0 yX0_consume yX0_consume, Cond.code yX0_consume cX0_consume 2 none, Cond.fieldLink RX0 20 "MessageReader" "given" "I", Cond.methodLink RX0 105 yX0_endAt, Cond.instanceMethod yX0_endAt, Cond.selects RX0 yX0_endAt yX0_endAt, Cond.code yX0_endAt cX0_endAt 2 (some .int), Cond.methodLink RX0 98 yX0_headLengthAt, Cond.instanceMethod yX0_headLengthAt, Cond.selects RX0 yX0_headLengthAt yX0_headLengthAt, Cond.code yX0_headLengthAt cX0_headLengthAt 2 (some .int)]
def wsX0_next : List Cond := .code yX0_next cX0_next 4 (some .int) :: ((wsX0_next_r1 ++ (wsX0_next_r2 ++ (wsX0_next_r3 ++ wsX0_next_r4))) ++ wsX00)
def wsX0_lastHeadFrom_r1 : List Cond := [Cond.methodLink RX0 62 yX0_lookAt, Cond.instanceMethod yX0_lookAt, Cond.selects RX0 yX0_lookAt yX0_lookAt, Cond.initialized RX0, Cond.code yX0_lookAt cX0_lookAt 5 (some .int), Cond.fieldLink RX0 13 "MessageReader" "size" "I", Cond.constantLong RX0 159 (2147483647), Cond.methodLink RX0 58 yX0_storedByte, Cond.instanceMethod yX0_storedByte, Cond.selects RX0 yX0_storedByte yX0_storedByte, Cond.code yX0_storedByte cX0_storedByte 2 (some .int), Cond.fieldLink RX0 9 "MessageReader" "store" "[B", Cond.methodLink RX0 122 yX0_headLength, Cond.static yX0_headLength, Cond.code yX0_headLength cX0_headLength 1 (some .int), Cond.methodLink RX0 127 yX0_width, Cond.static yX0_width, Cond.code yX0_width cX0_width 1 (some .int), Cond.fieldLink RX0 137 "MessageReader" "ROW_WIDTH" "[I", Cond.methodLink RX0 130 yX0_typeWidth, Cond.static yX0_typeWidth, Cond.code yX0_typeWidth cX0_typeWidth 1 (some .int), Cond.methodLink RX0 140 yX0_kindOf, Cond.static yX0_kindOf]
def wsX0_lastHeadFrom_r2 : List Cond := [Cond.code yX0_kindOf cX0_kindOf 1 (some .int), Cond.fieldLink RX0 133 "MessageReader" "ROW_KIND" "[I", Cond.methodLink RX0 89 yX0_numberAt, Cond.instanceMethod yX0_numberAt, Cond.selects RX0 yX0_numberAt yX0_numberAt, Cond.code yX0_numberAt cX0_numberAt 6 (some .long), Cond.methodLink RX0 143 yX0_numberInside, Cond.static yX0_numberInside, Cond.code yX0_numberInside cX0_numberInside 1 (some .long), Cond.methodLink RX0 146 yX0_readNumber, Cond.instanceMethod yX0_readNumber, Cond.selects RX0 yX0_readNumber yX0_readNumber, Cond.code yX0_readNumber cX0_readNumber 6 (some .long), Cond.methodLink RX0 150 yX0_withSign, Cond.static yX0_withSign, Cond.code yX0_withSign cX0_withSign 4 (some .long), Cond.methodLink RX0 95 yX0_payloadLengthAt, Cond.instanceMethod yX0_payloadLengthAt, Cond.selects RX0 yX0_payloadLengthAt yX0_payloadLengthAt, Cond.code yX0_payloadLengthAt cX0_payloadLengthAt 2 (some .int), Cond.methodLink RX0 86 yX0_kindAt, Cond.instanceMethod yX0_kindAt, Cond.selects RX0 yX0_kindAt yX0_kindAt, Cond.code yX0_kindAt cX0_kindAt 2 (some .int)]
def wsX0_lastHeadFrom_r3 : List Cond := [Cond.methodLink RX0 154 yX0_hasPayload, Cond.static yX0_hasPayload, Cond.code yX0_hasPayload cX0_hasPayload 1 (some .boolean), Cond.methodLink RX0 65 yX0_childrenAt, Cond.instanceMethod yX0_childrenAt, Cond.selects RX0 yX0_childrenAt yX0_childrenAt, Cond.code yX0_childrenAt cX0_childrenAt 2 (some .long), Cond.constantLong RX0 157 (2), Cond.methodLink RX0 105 yX0_endAt, Cond.instanceMethod yX0_endAt, Cond.selects RX0 yX0_endAt yX0_endAt, Cond.code yX0_endAt cX0_endAt 2 (some .int), Cond.methodLink RX0 98 yX0_headLengthAt, Cond.instanceMethod yX0_headLengthAt, Cond.selects RX0 yX0_headLengthAt yX0_headLengthAt, Cond.code yX0_headLengthAt cX0_headLengthAt 2 (some .int)]
def wsX0_lastHeadFrom : List Cond := .code yX0_lastHeadFrom cX0_lastHeadFrom 7 (some .int) :: ((wsX0_lastHeadFrom_r1 ++ (wsX0_lastHeadFrom_r2 ++ wsX0_lastHeadFrom_r3)) ++ wsX00)
def wsX0_skip_r1 : List Cond := [Cond.fieldLink RX0 17 "MessageReader" "consumed" "I", Cond.methodLink RX0 83 yX0_lastHeadFrom, Cond.instanceMethod yX0_lastHeadFrom, Cond.selects RX0 yX0_lastHeadFrom yX0_lastHeadFrom, Cond.initialized RX0, Cond.code yX0_lastHeadFrom cX0_lastHeadFrom 7 (some .int), Cond.methodLink RX0 62 yX0_lookAt, Cond.instanceMethod yX0_lookAt, Cond.selects RX0 yX0_lookAt yX0_lookAt, Cond.code yX0_lookAt cX0_lookAt 5 (some .int), Cond.fieldLink RX0 13 "MessageReader" "size" "I", Cond.constantLong RX0 159 (2147483647), Cond.methodLink RX0 58 yX0_storedByte, Cond.instanceMethod yX0_storedByte, Cond.selects RX0 yX0_storedByte yX0_storedByte, Cond.code yX0_storedByte cX0_storedByte 2 (some .int), Cond.fieldLink RX0 9 "MessageReader" "store" "[B", Cond.methodLink RX0 122 yX0_headLength, Cond.static yX0_headLength, Cond.code yX0_headLength cX0_headLength 1 (some .int), Cond.methodLink RX0 127 yX0_width, Cond.static yX0_width, Cond.code yX0_width cX0_width 1 (some .int), Cond.fieldLink RX0 137 "MessageReader" "ROW_WIDTH" "[I"]
def wsX0_skip_r2 : List Cond := [Cond.methodLink RX0 130 yX0_typeWidth, Cond.static yX0_typeWidth, Cond.code yX0_typeWidth cX0_typeWidth 1 (some .int), Cond.methodLink RX0 140 yX0_kindOf, Cond.static yX0_kindOf, Cond.code yX0_kindOf cX0_kindOf 1 (some .int), Cond.fieldLink RX0 133 "MessageReader" "ROW_KIND" "[I", Cond.methodLink RX0 89 yX0_numberAt, Cond.instanceMethod yX0_numberAt, Cond.selects RX0 yX0_numberAt yX0_numberAt, Cond.code yX0_numberAt cX0_numberAt 6 (some .long), Cond.methodLink RX0 143 yX0_numberInside, Cond.static yX0_numberInside, Cond.code yX0_numberInside cX0_numberInside 1 (some .long), Cond.methodLink RX0 146 yX0_readNumber, Cond.instanceMethod yX0_readNumber, Cond.selects RX0 yX0_readNumber yX0_readNumber, Cond.code yX0_readNumber cX0_readNumber 6 (some .long), Cond.methodLink RX0 150 yX0_withSign, Cond.static yX0_withSign, Cond.code yX0_withSign cX0_withSign 4 (some .long), Cond.methodLink RX0 95 yX0_payloadLengthAt, Cond.instanceMethod yX0_payloadLengthAt, Cond.selects RX0 yX0_payloadLengthAt yX0_payloadLengthAt]
def wsX0_skip_r3 : List Cond := [Cond.code yX0_payloadLengthAt cX0_payloadLengthAt 2 (some .int), Cond.methodLink RX0 86 yX0_kindAt, Cond.instanceMethod yX0_kindAt, Cond.selects RX0 yX0_kindAt yX0_kindAt, Cond.code yX0_kindAt cX0_kindAt 2 (some .int), Cond.methodLink RX0 154 yX0_hasPayload, Cond.static yX0_hasPayload, Cond.code yX0_hasPayload cX0_hasPayload 1 (some .boolean), Cond.methodLink RX0 65 yX0_childrenAt, Cond.instanceMethod yX0_childrenAt, Cond.selects RX0 yX0_childrenAt yX0_childrenAt, Cond.code yX0_childrenAt cX0_childrenAt 2 (some .long), Cond.constantLong RX0 157 (2), Cond.methodLink RX0 105 yX0_endAt, Cond.instanceMethod yX0_endAt, Cond.selects RX0 yX0_endAt yX0_endAt, Cond.code yX0_endAt cX0_endAt 2 (some .int), Cond.methodLink RX0 98 yX0_headLengthAt, Cond.instanceMethod yX0_headLengthAt, Cond.selects RX0 yX0_headLengthAt yX0_headLengthAt, Cond.code yX0_headLengthAt cX0_headLengthAt 2 (some .int), Cond.methodLink RX0 69 yX0_countChild, Cond.instanceMethod yX0_countChild, Cond.selects RX0 yX0_countChild yX0_countChild]
def wsX0_skip_r4 : List Cond := [Cond.code yX0_countChild cX0_countChild 1 none, Cond.fieldLink RX0 27 "MessageReader" "open" "I", Cond.fieldLink RX0 23 "MessageReader" "childrenLeft" "[J", Cond.methodLink RX0 76 yX0_closeFinished, Cond.instanceMethod yX0_closeFinished, Cond.selects RX0 yX0_closeFinished yX0_closeFinished, Cond.code yX0_closeFinished cX0_closeFinished 1 none, Cond.methodLink RX0 79 yX0_consume, Cond.instanceMethod yX0_consume, Cond.selects RX0 yX0_consume yX0_consume, Cond.code yX0_consume cX0_consume 2 none, Cond.fieldLink RX0 20 "MessageReader" "given" "I"]
def wsX0_skip : List Cond := .code yX0_skip cX0_skip 3 (some .int) :: ((wsX0_skip_r1 ++ (wsX0_skip_r2 ++ (wsX0_skip_r3 ++ wsX0_skip_r4))) ++ wsX00)
def wsX0_kind : List Cond := .code yX0_kind cX0_kind 1 (some .int) :: ([.fieldLink RX0 20 "MessageReader" "given" "I", .methodLink RX0 86 yX0_kindAt, .instanceMethod yX0_kindAt, .selects RX0 yX0_kindAt yX0_kindAt, .initialized RX0, .code yX0_kindAt cX0_kindAt 2 (some .int), .methodLink RX0 58 yX0_storedByte, .instanceMethod yX0_storedByte, .selects RX0 yX0_storedByte yX0_storedByte, .code yX0_storedByte cX0_storedByte 2 (some .int), .fieldLink RX0 9 "MessageReader" "store" "[B", .methodLink RX0 140 yX0_kindOf, .static yX0_kindOf, .code yX0_kindOf cX0_kindOf 1 (some .int), .fieldLink RX0 133 "MessageReader" "ROW_KIND" "[I"] ++ wsX00)
def wsX0_valueLow_r1 : List Cond := [Cond.fieldLink RX0 20 "MessageReader" "given" "I", Cond.methodLink RX0 89 yX0_numberAt, Cond.instanceMethod yX0_numberAt, Cond.selects RX0 yX0_numberAt yX0_numberAt, Cond.initialized RX0, Cond.code yX0_numberAt cX0_numberAt 6 (some .long), Cond.methodLink RX0 58 yX0_storedByte, Cond.instanceMethod yX0_storedByte, Cond.selects RX0 yX0_storedByte yX0_storedByte, Cond.code yX0_storedByte cX0_storedByte 2 (some .int), Cond.fieldLink RX0 9 "MessageReader" "store" "[B", Cond.methodLink RX0 127 yX0_width, Cond.static yX0_width, Cond.code yX0_width cX0_width 1 (some .int), Cond.fieldLink RX0 137 "MessageReader" "ROW_WIDTH" "[I", Cond.methodLink RX0 143 yX0_numberInside, Cond.static yX0_numberInside, Cond.code yX0_numberInside cX0_numberInside 1 (some .long), Cond.methodLink RX0 140 yX0_kindOf, Cond.static yX0_kindOf, Cond.code yX0_kindOf cX0_kindOf 1 (some .int), Cond.fieldLink RX0 133 "MessageReader" "ROW_KIND" "[I", Cond.methodLink RX0 146 yX0_readNumber, Cond.instanceMethod yX0_readNumber]
def wsX0_valueLow_r2 : List Cond := [Cond.selects RX0 yX0_readNumber yX0_readNumber, Cond.code yX0_readNumber cX0_readNumber 6 (some .long), Cond.methodLink RX0 150 yX0_withSign, Cond.static yX0_withSign, Cond.code yX0_withSign cX0_withSign 4 (some .long)]
def wsX0_valueLow : List Cond := .code yX0_valueLow cX0_valueLow 1 (some .int) :: ((wsX0_valueLow_r1 ++ wsX0_valueLow_r2) ++ wsX00)
def wsX0_typeAt : List Cond := .code yX0_typeAt cX0_typeAt 2 (some .int) :: ([.fieldLink RX0 9 "MessageReader" "store" "[B", .methodLink RX0 98 yX0_headLengthAt, .instanceMethod yX0_headLengthAt, .selects RX0 yX0_headLengthAt yX0_headLengthAt, .initialized RX0, .code yX0_headLengthAt cX0_headLengthAt 2 (some .int), .methodLink RX0 58 yX0_storedByte, .instanceMethod yX0_storedByte, .selects RX0 yX0_storedByte yX0_storedByte, .code yX0_storedByte cX0_storedByte 2 (some .int), .methodLink RX0 122 yX0_headLength, .static yX0_headLength, .code yX0_headLength cX0_headLength 1 (some .int), .methodLink RX0 127 yX0_width, .static yX0_width, .code yX0_width cX0_width 1 (some .int), .fieldLink RX0 137 "MessageReader" "ROW_WIDTH" "[I", .methodLink RX0 130 yX0_typeWidth, .static yX0_typeWidth, .code yX0_typeWidth cX0_typeWidth 1 (some .int), .methodLink RX0 140 yX0_kindOf, .static yX0_kindOf, .code yX0_kindOf cX0_kindOf 1 (some .int), .fieldLink RX0 133 "MessageReader" "ROW_KIND" "[I"] ++ wsX00)
def wsX0_valueHigh_r1 : List Cond := [Cond.fieldLink RX0 20 "MessageReader" "given" "I", Cond.methodLink RX0 86 yX0_kindAt, Cond.instanceMethod yX0_kindAt, Cond.selects RX0 yX0_kindAt yX0_kindAt, Cond.initialized RX0, Cond.code yX0_kindAt cX0_kindAt 2 (some .int), Cond.methodLink RX0 58 yX0_storedByte, Cond.instanceMethod yX0_storedByte, Cond.selects RX0 yX0_storedByte yX0_storedByte, Cond.code yX0_storedByte cX0_storedByte 2 (some .int), Cond.fieldLink RX0 9 "MessageReader" "store" "[B", Cond.methodLink RX0 140 yX0_kindOf, Cond.static yX0_kindOf, Cond.code yX0_kindOf cX0_kindOf 1 (some .int), Cond.fieldLink RX0 133 "MessageReader" "ROW_KIND" "[I", Cond.methodLink RX0 92 yX0_typeAt, Cond.instanceMethod yX0_typeAt, Cond.selects RX0 yX0_typeAt yX0_typeAt, Cond.code yX0_typeAt cX0_typeAt 2 (some .int), Cond.methodLink RX0 98 yX0_headLengthAt, Cond.instanceMethod yX0_headLengthAt, Cond.selects RX0 yX0_headLengthAt yX0_headLengthAt, Cond.code yX0_headLengthAt cX0_headLengthAt 2 (some .int), Cond.methodLink RX0 122 yX0_headLength]
def wsX0_valueHigh_r2 : List Cond := [Cond.static yX0_headLength, Cond.code yX0_headLength cX0_headLength 1 (some .int), Cond.methodLink RX0 127 yX0_width, Cond.static yX0_width, Cond.code yX0_width cX0_width 1 (some .int), Cond.fieldLink RX0 137 "MessageReader" "ROW_WIDTH" "[I", Cond.methodLink RX0 130 yX0_typeWidth, Cond.static yX0_typeWidth, Cond.code yX0_typeWidth cX0_typeWidth 1 (some .int), Cond.methodLink RX0 89 yX0_numberAt, Cond.instanceMethod yX0_numberAt, Cond.selects RX0 yX0_numberAt yX0_numberAt, Cond.code yX0_numberAt cX0_numberAt 6 (some .long), Cond.methodLink RX0 143 yX0_numberInside, Cond.static yX0_numberInside, Cond.code yX0_numberInside cX0_numberInside 1 (some .long), Cond.methodLink RX0 146 yX0_readNumber, Cond.instanceMethod yX0_readNumber, Cond.selects RX0 yX0_readNumber yX0_readNumber, Cond.code yX0_readNumber cX0_readNumber 6 (some .long), Cond.methodLink RX0 150 yX0_withSign, Cond.static yX0_withSign, Cond.code yX0_withSign cX0_withSign 4 (some .long)]
def wsX0_valueHigh : List Cond := .code yX0_valueHigh cX0_valueHigh 1 (some .int) :: ((wsX0_valueHigh_r1 ++ wsX0_valueHigh_r2) ++ wsX00)
def wsX0_payload_r1 : List Cond := [Cond.fieldLink RX0 20 "MessageReader" "given" "I", Cond.methodLink RX0 95 yX0_payloadLengthAt, Cond.instanceMethod yX0_payloadLengthAt, Cond.selects RX0 yX0_payloadLengthAt yX0_payloadLengthAt, Cond.initialized RX0, Cond.code yX0_payloadLengthAt cX0_payloadLengthAt 2 (some .int), Cond.methodLink RX0 86 yX0_kindAt, Cond.instanceMethod yX0_kindAt, Cond.selects RX0 yX0_kindAt yX0_kindAt, Cond.code yX0_kindAt cX0_kindAt 2 (some .int), Cond.methodLink RX0 58 yX0_storedByte, Cond.instanceMethod yX0_storedByte, Cond.selects RX0 yX0_storedByte yX0_storedByte, Cond.code yX0_storedByte cX0_storedByte 2 (some .int), Cond.fieldLink RX0 9 "MessageReader" "store" "[B", Cond.methodLink RX0 140 yX0_kindOf, Cond.static yX0_kindOf, Cond.code yX0_kindOf cX0_kindOf 1 (some .int), Cond.fieldLink RX0 133 "MessageReader" "ROW_KIND" "[I", Cond.methodLink RX0 154 yX0_hasPayload, Cond.static yX0_hasPayload, Cond.code yX0_hasPayload cX0_hasPayload 1 (some .boolean), Cond.methodLink RX0 89 yX0_numberAt, Cond.instanceMethod yX0_numberAt]
def wsX0_payload_r2 : List Cond := [Cond.selects RX0 yX0_numberAt yX0_numberAt, Cond.code yX0_numberAt cX0_numberAt 6 (some .long), Cond.methodLink RX0 127 yX0_width, Cond.static yX0_width, Cond.code yX0_width cX0_width 1 (some .int), Cond.fieldLink RX0 137 "MessageReader" "ROW_WIDTH" "[I", Cond.methodLink RX0 143 yX0_numberInside, Cond.static yX0_numberInside, Cond.code yX0_numberInside cX0_numberInside 1 (some .long), Cond.methodLink RX0 146 yX0_readNumber, Cond.instanceMethod yX0_readNumber, Cond.selects RX0 yX0_readNumber yX0_readNumber, Cond.code yX0_readNumber cX0_readNumber 6 (some .long), Cond.methodLink RX0 150 yX0_withSign, Cond.static yX0_withSign, Cond.code yX0_withSign cX0_withSign 4 (some .long), Cond.methodLink RX0 98 yX0_headLengthAt, Cond.instanceMethod yX0_headLengthAt, Cond.selects RX0 yX0_headLengthAt yX0_headLengthAt, Cond.code yX0_headLengthAt cX0_headLengthAt 2 (some .int), Cond.methodLink RX0 122 yX0_headLength, Cond.static yX0_headLength, Cond.code yX0_headLength cX0_headLength 1 (some .int), Cond.methodLink RX0 130 yX0_typeWidth]
def wsX0_payload_r3 : List Cond := [Cond.static yX0_typeWidth, Cond.code yX0_typeWidth cX0_typeWidth 1 (some .int)]
def wsX0_payload : List Cond := .code yX0_payload cX0_payload 2 (some .int) :: ((wsX0_payload_r1 ++ (wsX0_payload_r2 ++ wsX0_payload_r3)) ++ wsX00)
def wsX0_level : List Cond := .code yX0_level cX0_level 1 (some .int) :: ([.fieldLink RX0 27 "MessageReader" "open" "I"] ++ wsX00)
def wsX0_remaining : List Cond := .code yX0_remaining cX0_remaining 2 (some .long) :: ([.classLink RX0 30 "java/lang/IllegalArgumentException", .initialized "java/lang/IllegalArgumentException", .fieldLink RX0 27 "MessageReader" "open" "I", .constantLong RX0 103 (-1), .fieldLink RX0 23 "MessageReader" "childrenLeft" "[J"] ++ wsX00 ++ (vx_atS RX0 34 "java/lang/IllegalArgumentException" ["java/lang/RuntimeException", "java/lang/Exception"]).filter goodWord)
def wsX0_consumed : List Cond := .code yX0_consumed cX0_consumed 1 (some .int) :: ([.fieldLink RX0 17 "MessageReader" "consumed" "I"] ++ wsX00)
def wsX0_whole_r1 : List Cond := [Cond.fieldLink RX0 17 "MessageReader" "consumed" "I", Cond.methodLink RX0 83 yX0_lastHeadFrom, Cond.instanceMethod yX0_lastHeadFrom, Cond.selects RX0 yX0_lastHeadFrom yX0_lastHeadFrom, Cond.initialized RX0, Cond.code yX0_lastHeadFrom cX0_lastHeadFrom 7 (some .int), Cond.methodLink RX0 62 yX0_lookAt, Cond.instanceMethod yX0_lookAt, Cond.selects RX0 yX0_lookAt yX0_lookAt, Cond.code yX0_lookAt cX0_lookAt 5 (some .int), Cond.fieldLink RX0 13 "MessageReader" "size" "I", Cond.constantLong RX0 159 (2147483647), Cond.methodLink RX0 58 yX0_storedByte, Cond.instanceMethod yX0_storedByte, Cond.selects RX0 yX0_storedByte yX0_storedByte, Cond.code yX0_storedByte cX0_storedByte 2 (some .int), Cond.fieldLink RX0 9 "MessageReader" "store" "[B", Cond.methodLink RX0 122 yX0_headLength, Cond.static yX0_headLength, Cond.code yX0_headLength cX0_headLength 1 (some .int), Cond.methodLink RX0 127 yX0_width, Cond.static yX0_width, Cond.code yX0_width cX0_width 1 (some .int), Cond.fieldLink RX0 137 "MessageReader" "ROW_WIDTH" "[I"]
def wsX0_whole_r2 : List Cond := [Cond.methodLink RX0 130 yX0_typeWidth, Cond.static yX0_typeWidth, Cond.code yX0_typeWidth cX0_typeWidth 1 (some .int), Cond.methodLink RX0 140 yX0_kindOf, Cond.static yX0_kindOf, Cond.code yX0_kindOf cX0_kindOf 1 (some .int), Cond.fieldLink RX0 133 "MessageReader" "ROW_KIND" "[I", Cond.methodLink RX0 89 yX0_numberAt, Cond.instanceMethod yX0_numberAt, Cond.selects RX0 yX0_numberAt yX0_numberAt, Cond.code yX0_numberAt cX0_numberAt 6 (some .long), Cond.methodLink RX0 143 yX0_numberInside, Cond.static yX0_numberInside, Cond.code yX0_numberInside cX0_numberInside 1 (some .long), Cond.methodLink RX0 146 yX0_readNumber, Cond.instanceMethod yX0_readNumber, Cond.selects RX0 yX0_readNumber yX0_readNumber, Cond.code yX0_readNumber cX0_readNumber 6 (some .long), Cond.methodLink RX0 150 yX0_withSign, Cond.static yX0_withSign, Cond.code yX0_withSign cX0_withSign 4 (some .long), Cond.methodLink RX0 95 yX0_payloadLengthAt, Cond.instanceMethod yX0_payloadLengthAt, Cond.selects RX0 yX0_payloadLengthAt yX0_payloadLengthAt]
def wsX0_whole_r3 : List Cond := [Cond.code yX0_payloadLengthAt cX0_payloadLengthAt 2 (some .int), Cond.methodLink RX0 86 yX0_kindAt, Cond.instanceMethod yX0_kindAt, Cond.selects RX0 yX0_kindAt yX0_kindAt, Cond.code yX0_kindAt cX0_kindAt 2 (some .int), Cond.methodLink RX0 154 yX0_hasPayload, Cond.static yX0_hasPayload, Cond.code yX0_hasPayload cX0_hasPayload 1 (some .boolean), Cond.methodLink RX0 65 yX0_childrenAt, Cond.instanceMethod yX0_childrenAt, Cond.selects RX0 yX0_childrenAt yX0_childrenAt, Cond.code yX0_childrenAt cX0_childrenAt 2 (some .long), Cond.constantLong RX0 157 (2), Cond.methodLink RX0 105 yX0_endAt, Cond.instanceMethod yX0_endAt, Cond.selects RX0 yX0_endAt yX0_endAt, Cond.code yX0_endAt cX0_endAt 2 (some .int), Cond.methodLink RX0 98 yX0_headLengthAt, Cond.instanceMethod yX0_headLengthAt, Cond.selects RX0 yX0_headLengthAt yX0_headLengthAt, Cond.code yX0_headLengthAt cX0_headLengthAt 2 (some .int)]
def wsX0_whole : List Cond := .code yX0_whole cX0_whole 4 (some .int) :: ((wsX0_whole_r1 ++ (wsX0_whole_r2 ++ wsX0_whole_r3)) ++ wsX00)
def wsX0_numberOf : List Cond := .code yX0_numberOf cX0_numberOf 6 (some .long) :: ([.constantLong RX0 161 (4294967295)])
def wsX0_unsignedStep : List Cond := .code yX0_unsignedStep cX0_unsignedStep 2 (some .int) :: ([])
def wsX0_signedStep : List Cond := .code yX0_signedStep cX0_signedStep 2 (some .int) :: ([])
def wsX0_countStep : List Cond := .code yX0_countStep cX0_countStep 2 (some .int) :: ([])
def wsX0_extensionForm : List Cond := .code yX0_extensionForm cX0_extensionForm 3 (some .int) :: ([.methodLink RX0 165 yX0_unsignedStep, .static yX0_unsignedStep, .initialized RX0, .code yX0_unsignedStep cX0_unsignedStep 2 (some .int)])
def wsX0_shortestForm : List Cond := .code yX0_shortestForm cX0_shortestForm 3 (some .int) :: ([.constantLong RX0 163 (128), .constantLong RX0 169 (-32), .constantLong RX0 174 (32), .constantLong RX0 176 (16), .methodLink RX0 165 yX0_unsignedStep, .static yX0_unsignedStep, .initialized RX0, .code yX0_unsignedStep cX0_unsignedStep 2 (some .int), .methodLink RX0 171 yX0_signedStep, .static yX0_signedStep, .code yX0_signedStep cX0_signedStep 2 (some .int), .methodLink RX0 178 yX0_countStep, .static yX0_countStep, .code yX0_countStep cX0_countStep 2 (some .int), .methodLink RX0 181 yX0_extensionForm, .static yX0_extensionForm, .code yX0_extensionForm cX0_extensionForm 3 (some .int)])
def wsX0_pack_r1 : List Cond := [Cond.classLink RX0 30 "java/lang/IllegalArgumentException", Cond.initialized "java/lang/IllegalArgumentException", Cond.classLink RX0 41 "java/lang/IllegalStateException", Cond.initialized "java/lang/IllegalStateException", Cond.methodLink RX0 114 yX0_numberOf, Cond.static yX0_numberOf, Cond.initialized RX0, Cond.code yX0_numberOf cX0_numberOf 6 (some .long), Cond.constantLong RX0 161 (4294967295), Cond.methodLink RX0 118 yX0_shortestForm, Cond.static yX0_shortestForm, Cond.code yX0_shortestForm cX0_shortestForm 3 (some .int), Cond.constantLong RX0 163 (128), Cond.constantLong RX0 169 (-32), Cond.constantLong RX0 174 (32), Cond.constantLong RX0 176 (16), Cond.methodLink RX0 165 yX0_unsignedStep, Cond.static yX0_unsignedStep, Cond.code yX0_unsignedStep cX0_unsignedStep 2 (some .int), Cond.methodLink RX0 171 yX0_signedStep, Cond.static yX0_signedStep, Cond.code yX0_signedStep cX0_signedStep 2 (some .int), Cond.methodLink RX0 178 yX0_countStep, Cond.static yX0_countStep]
def wsX0_pack_r2 : List Cond := [Cond.code yX0_countStep cX0_countStep 2 (some .int), Cond.methodLink RX0 181 yX0_extensionForm, Cond.static yX0_extensionForm, Cond.code yX0_extensionForm cX0_extensionForm 3 (some .int), Cond.methodLink RX0 122 yX0_headLength, Cond.static yX0_headLength, Cond.code yX0_headLength cX0_headLength 1 (some .int), Cond.methodLink RX0 127 yX0_width, Cond.static yX0_width, Cond.code yX0_width cX0_width 1 (some .int), Cond.fieldLink RX0 137 "MessageReader" "ROW_WIDTH" "[I", Cond.methodLink RX0 130 yX0_typeWidth, Cond.static yX0_typeWidth, Cond.code yX0_typeWidth cX0_typeWidth 1 (some .int), Cond.methodLink RX0 140 yX0_kindOf, Cond.static yX0_kindOf, Cond.code yX0_kindOf cX0_kindOf 1 (some .int), Cond.fieldLink RX0 133 "MessageReader" "ROW_KIND" "[I", Cond.methodLink RX0 37 yX0_hasRoom, Cond.instanceMethod yX0_hasRoom, Cond.selects RX0 yX0_hasRoom yX0_hasRoom, Cond.code yX0_hasRoom cX0_hasRoom 2 (some .boolean), Cond.fieldLink RX0 13 "MessageReader" "size" "I", Cond.methodLink RX0 46 yX0_append]
def wsX0_pack_r3 : List Cond := [Cond.instanceMethod yX0_append, Cond.selects RX0 yX0_append yX0_append, Cond.code yX0_append cX0_append 5 none, Cond.fieldLink RX0 9 "MessageReader" "store" "[B"]
def wsX0_pack : List Cond := .code yX0_pack cX0_pack 8 (some .int) :: ((wsX0_pack_r1 ++ (wsX0_pack_r2 ++ wsX0_pack_r3)) ++ wsX00 ++ (vx_atS RX0 34 "java/lang/IllegalArgumentException" ["java/lang/RuntimeException", "java/lang/Exception"]).filter goodWord ++ (vx_atS RX0 45 "java/lang/IllegalStateException" ["java/lang/RuntimeException", "java/lang/Exception"]).filter goodWord)
def wsX1_init : List Cond := .code yX1_init cX1_init 1 none :: ([.methodLink RX1 1 objectInit, .instanceMethod objectInit, .code objectInit ⟨#[0xb1]⟩ 1 none, .arrayClass .int, .fieldLink RX1 7 "MessageReaderModel" "bytes" "[I", .fieldLink RX1 13 "MessageReaderModel" "lastKind" "I", .arrayClass .long, .fieldLink RX1 17 "MessageReaderModel" "open" "[J"] ++ wsX10)
def wsX1_thrown : List Cond := .code yX1_thrown cX1_thrown 1 (some .int) :: ([.fieldLink RX1 21 "MessageReaderModel" "thrown" "I"] ++ wsX10)
def wsX1_fails : List Cond := .code yX1_fails cX1_fails 3 (some .boolean) :: ([.fieldLink RX1 21 "MessageReaderModel" "thrown" "I"] ++ wsX10)
def wsX1_feed : List Cond := .code yX1_feed cX1_feed 2 (some .int) :: ([.fieldLink RX1 21 "MessageReaderModel" "thrown" "I", .fieldLink RX1 28 "MessageReaderModel" "size" "I", .fieldLink RX1 7 "MessageReaderModel" "bytes" "[I", .methodLink RX1 24 yX1_fails, .instanceMethod yX1_fails, .selects RX1 yX1_fails yX1_fails, .initialized RX1, .code yX1_fails cX1_fails 3 (some .boolean)] ++ wsX10)
def wsX1_write : List Cond := .code yX1_write cX1_write 5 none :: ([.fieldLink RX1 7 "MessageReaderModel" "bytes" "[I", .fieldLink RX1 28 "MessageReaderModel" "size" "I", .constantLong RX1 31 (255)] ++ wsX10)
def wsX1_put : List Cond := .code yX1_put cX1_put 4 (some .int) :: ([.fieldLink RX1 21 "MessageReaderModel" "thrown" "I", .fieldLink RX1 28 "MessageReaderModel" "size" "I", .methodLink RX1 24 yX1_fails, .instanceMethod yX1_fails, .selects RX1 yX1_fails yX1_fails, .initialized RX1, .code yX1_fails cX1_fails 3 (some .boolean), .methodLink RX1 33 yX1_write, .instanceMethod yX1_write, .selects RX1 yX1_write yX1_write, .code yX1_write cX1_write 5 none, .fieldLink RX1 7 "MessageReaderModel" "bytes" "[I", .constantLong RX1 31 (255)] ++ wsX10)
def wsX1_cut : List Cond := .code yX1_cut cX1_cut 2 (some .int) :: ([.fieldLink RX1 21 "MessageReaderModel" "thrown" "I", .fieldLink RX1 28 "MessageReaderModel" "size" "I", .fieldLink RX1 37 "MessageReaderModel" "consumed" "I", .methodLink RX1 24 yX1_fails, .instanceMethod yX1_fails, .selects RX1 yX1_fails yX1_fails, .initialized RX1, .code yX1_fails cX1_fails 3 (some .boolean)] ++ wsX10)
def wsX1_byteAt : List Cond := .code yX1_byteAt cX1_byteAt 2 (some .int) :: ([.fieldLink RX1 21 "MessageReaderModel" "thrown" "I", .fieldLink RX1 28 "MessageReaderModel" "size" "I", .fieldLink RX1 7 "MessageReaderModel" "bytes" "[I", .methodLink RX1 24 yX1_fails, .instanceMethod yX1_fails, .selects RX1 yX1_fails yX1_fails, .initialized RX1, .code yX1_fails cX1_fails 3 (some .boolean)] ++ wsX10)
def wsX1_numberAt : List Cond := .code yX1_numberAt cX1_numberAt 6 (some .long) :: ([.fieldLink RX1 7 "MessageReaderModel" "bytes" "[I"] ++ wsX10)
def wsX1_widthOf : List Cond := .code yX1_widthOf cX1_widthOf 1 (some .int) :: ([])
def wsX1_kindOf : List Cond := .code yX1_kindOf cX1_kindOf 1 (some .int) :: ([])
def wsX1_ownNumber : List Cond := .code yX1_ownNumber cX1_ownNumber 1 (some .long) :: ([])
def wsX1_look : List Cond := .code yX1_look cX1_look 5 (some .int) :: ([.fieldLink RX1 28 "MessageReaderModel" "size" "I", .fieldLink RX1 7 "MessageReaderModel" "bytes" "[I", .fieldLink RX1 47 "MessageReaderModel" "sort" "I", .fieldLink RX1 50 "MessageReaderModel" "head" "I", .fieldLink RX1 61 "MessageReaderModel" "number" "J", .fieldLink RX1 65 "MessageReaderModel" "type" "I", .fieldLink RX1 68 "MessageReaderModel" "payload" "J", .fieldLink RX1 71 "MessageReaderModel" "children" "J", .constantLong RX1 74 (2147483647), .constantLong RX1 76 (2), .methodLink RX1 40 yX1_widthOf, .static yX1_widthOf, .initialized RX1, .code yX1_widthOf cX1_widthOf 1 (some .int), .methodLink RX1 44 yX1_kindOf, .static yX1_kindOf, .code yX1_kindOf cX1_kindOf 1 (some .int), .methodLink RX1 53 yX1_ownNumber, .static yX1_ownNumber, .code yX1_ownNumber cX1_ownNumber 1 (some .long), .methodLink RX1 57 yX1_numberAt, .instanceMethod yX1_numberAt, .selects RX1 yX1_numberAt yX1_numberAt, .code yX1_numberAt cX1_numberAt 6 (some .long)] ++ wsX10)
def wsX1_give : List Cond := .code yX1_give cX1_give 2 none :: ([.fieldLink RX1 47 "MessageReaderModel" "sort" "I", .fieldLink RX1 13 "MessageReaderModel" "lastKind" "I", .fieldLink RX1 61 "MessageReaderModel" "number" "J", .fieldLink RX1 78 "MessageReaderModel" "low" "I", .fieldLink RX1 65 "MessageReaderModel" "type" "I", .fieldLink RX1 81 "MessageReaderModel" "high" "I", .fieldLink RX1 84 "MessageReaderModel" "lastPayload" "I", .fieldLink RX1 68 "MessageReaderModel" "payload" "J", .fieldLink RX1 87 "MessageReaderModel" "lastLength" "I"] ++ wsX10)
def wsX1_closeDone : List Cond := .code yX1_closeDone cX1_closeDone 1 none :: ([.fieldLink RX1 90 "MessageReaderModel" "level" "I", .fieldLink RX1 17 "MessageReaderModel" "open" "[J"] ++ wsX10)
def wsX1_next_r1 : List Cond := [Cond.fieldLink RX1 21 "MessageReaderModel" "thrown" "I", Cond.fieldLink RX1 37 "MessageReaderModel" "consumed" "I", Cond.fieldLink RX1 71 "MessageReaderModel" "children" "J", Cond.fieldLink RX1 90 "MessageReaderModel" "level" "I", Cond.fieldLink RX1 50 "MessageReaderModel" "head" "I", Cond.fieldLink RX1 68 "MessageReaderModel" "payload" "J", Cond.fieldLink RX1 17 "MessageReaderModel" "open" "[J", Cond.fieldLink RX1 47 "MessageReaderModel" "sort" "I", Cond.methodLink RX1 93 yX1_look, Cond.instanceMethod yX1_look, Cond.selects RX1 yX1_look yX1_look, Cond.initialized RX1, Cond.code yX1_look cX1_look 5 (some .int), Cond.fieldLink RX1 28 "MessageReaderModel" "size" "I", Cond.fieldLink RX1 7 "MessageReaderModel" "bytes" "[I", Cond.fieldLink RX1 61 "MessageReaderModel" "number" "J", Cond.fieldLink RX1 65 "MessageReaderModel" "type" "I", Cond.constantLong RX1 74 (2147483647), Cond.constantLong RX1 76 (2), Cond.methodLink RX1 40 yX1_widthOf, Cond.static yX1_widthOf, Cond.code yX1_widthOf cX1_widthOf 1 (some .int), Cond.methodLink RX1 44 yX1_kindOf, Cond.static yX1_kindOf]
def wsX1_next_r2 : List Cond := [Cond.code yX1_kindOf cX1_kindOf 1 (some .int), Cond.methodLink RX1 53 yX1_ownNumber, Cond.static yX1_ownNumber, Cond.code yX1_ownNumber cX1_ownNumber 1 (some .long), Cond.methodLink RX1 57 yX1_numberAt, Cond.instanceMethod yX1_numberAt, Cond.selects RX1 yX1_numberAt yX1_numberAt, Cond.code yX1_numberAt cX1_numberAt 6 (some .long), Cond.methodLink RX1 96 yX1_give, Cond.instanceMethod yX1_give, Cond.selects RX1 yX1_give yX1_give, Cond.code yX1_give cX1_give 2 none, Cond.fieldLink RX1 13 "MessageReaderModel" "lastKind" "I", Cond.fieldLink RX1 78 "MessageReaderModel" "low" "I", Cond.fieldLink RX1 81 "MessageReaderModel" "high" "I", Cond.fieldLink RX1 84 "MessageReaderModel" "lastPayload" "I", Cond.fieldLink RX1 87 "MessageReaderModel" "lastLength" "I", Cond.methodLink RX1 100 yX1_closeDone, Cond.instanceMethod yX1_closeDone, Cond.selects RX1 yX1_closeDone yX1_closeDone, Cond.code yX1_closeDone cX1_closeDone 1 none]
def wsX1_next : List Cond := .code yX1_next cX1_next 2 (some .int) :: ((wsX1_next_r1 ++ wsX1_next_r2) ++ wsX10)
def wsX1_end_r1 : List Cond := [Cond.fieldLink RX1 50 "MessageReaderModel" "head" "I", Cond.fieldLink RX1 68 "MessageReaderModel" "payload" "J", Cond.fieldLink RX1 71 "MessageReaderModel" "children" "J", Cond.methodLink RX1 93 yX1_look, Cond.instanceMethod yX1_look, Cond.selects RX1 yX1_look yX1_look, Cond.initialized RX1, Cond.code yX1_look cX1_look 5 (some .int), Cond.fieldLink RX1 28 "MessageReaderModel" "size" "I", Cond.fieldLink RX1 7 "MessageReaderModel" "bytes" "[I", Cond.fieldLink RX1 47 "MessageReaderModel" "sort" "I", Cond.fieldLink RX1 61 "MessageReaderModel" "number" "J", Cond.fieldLink RX1 65 "MessageReaderModel" "type" "I", Cond.constantLong RX1 74 (2147483647), Cond.constantLong RX1 76 (2), Cond.methodLink RX1 40 yX1_widthOf, Cond.static yX1_widthOf, Cond.code yX1_widthOf cX1_widthOf 1 (some .int), Cond.methodLink RX1 44 yX1_kindOf, Cond.static yX1_kindOf, Cond.code yX1_kindOf cX1_kindOf 1 (some .int), Cond.methodLink RX1 53 yX1_ownNumber, Cond.static yX1_ownNumber, Cond.code yX1_ownNumber cX1_ownNumber 1 (some .long)]
def wsX1_end_r2 : List Cond := [Cond.methodLink RX1 57 yX1_numberAt, Cond.instanceMethod yX1_numberAt, Cond.selects RX1 yX1_numberAt yX1_numberAt, Cond.code yX1_numberAt cX1_numberAt 6 (some .long)]
def wsX1_end : List Cond := .code yX1_end cX1_end 6 (some .int) :: ((wsX1_end_r1 ++ wsX1_end_r2) ++ wsX10)
def wsX1_skip_r1 : List Cond := [Cond.fieldLink RX1 21 "MessageReaderModel" "thrown" "I", Cond.fieldLink RX1 37 "MessageReaderModel" "consumed" "I", Cond.fieldLink RX1 68 "MessageReaderModel" "payload" "J", Cond.fieldLink RX1 90 "MessageReaderModel" "level" "I", Cond.fieldLink RX1 17 "MessageReaderModel" "open" "[J", Cond.methodLink RX1 103 yX1_end, Cond.instanceMethod yX1_end, Cond.selects RX1 yX1_end yX1_end, Cond.initialized RX1, Cond.code yX1_end cX1_end 6 (some .int), Cond.fieldLink RX1 50 "MessageReaderModel" "head" "I", Cond.fieldLink RX1 71 "MessageReaderModel" "children" "J", Cond.methodLink RX1 93 yX1_look, Cond.instanceMethod yX1_look, Cond.selects RX1 yX1_look yX1_look, Cond.code yX1_look cX1_look 5 (some .int), Cond.fieldLink RX1 28 "MessageReaderModel" "size" "I", Cond.fieldLink RX1 7 "MessageReaderModel" "bytes" "[I", Cond.fieldLink RX1 47 "MessageReaderModel" "sort" "I", Cond.fieldLink RX1 61 "MessageReaderModel" "number" "J", Cond.fieldLink RX1 65 "MessageReaderModel" "type" "I", Cond.constantLong RX1 74 (2147483647), Cond.constantLong RX1 76 (2), Cond.methodLink RX1 40 yX1_widthOf]
def wsX1_skip_r2 : List Cond := [Cond.static yX1_widthOf, Cond.code yX1_widthOf cX1_widthOf 1 (some .int), Cond.methodLink RX1 44 yX1_kindOf, Cond.static yX1_kindOf, Cond.code yX1_kindOf cX1_kindOf 1 (some .int), Cond.methodLink RX1 53 yX1_ownNumber, Cond.static yX1_ownNumber, Cond.code yX1_ownNumber cX1_ownNumber 1 (some .long), Cond.methodLink RX1 57 yX1_numberAt, Cond.instanceMethod yX1_numberAt, Cond.selects RX1 yX1_numberAt yX1_numberAt, Cond.code yX1_numberAt cX1_numberAt 6 (some .long), Cond.methodLink RX1 96 yX1_give, Cond.instanceMethod yX1_give, Cond.selects RX1 yX1_give yX1_give, Cond.code yX1_give cX1_give 2 none, Cond.fieldLink RX1 13 "MessageReaderModel" "lastKind" "I", Cond.fieldLink RX1 78 "MessageReaderModel" "low" "I", Cond.fieldLink RX1 81 "MessageReaderModel" "high" "I", Cond.fieldLink RX1 84 "MessageReaderModel" "lastPayload" "I", Cond.fieldLink RX1 87 "MessageReaderModel" "lastLength" "I", Cond.methodLink RX1 100 yX1_closeDone, Cond.instanceMethod yX1_closeDone, Cond.selects RX1 yX1_closeDone yX1_closeDone]
def wsX1_skip_r3 : List Cond := [Cond.code yX1_closeDone cX1_closeDone 1 none]
def wsX1_skip : List Cond := .code yX1_skip cX1_skip 3 (some .int) :: ((wsX1_skip_r1 ++ (wsX1_skip_r2 ++ wsX1_skip_r3)) ++ wsX10)
def wsX1_kind : List Cond := .code yX1_kind cX1_kind 1 (some .int) :: ([.fieldLink RX1 21 "MessageReaderModel" "thrown" "I", .fieldLink RX1 13 "MessageReaderModel" "lastKind" "I"] ++ wsX10)
def wsX1_valueLow : List Cond := .code yX1_valueLow cX1_valueLow 1 (some .int) :: ([.fieldLink RX1 21 "MessageReaderModel" "thrown" "I", .fieldLink RX1 78 "MessageReaderModel" "low" "I"] ++ wsX10)
def wsX1_valueHigh : List Cond := .code yX1_valueHigh cX1_valueHigh 1 (some .int) :: ([.fieldLink RX1 21 "MessageReaderModel" "thrown" "I", .fieldLink RX1 81 "MessageReaderModel" "high" "I"] ++ wsX10)
def wsX1_payload : List Cond := .code yX1_payload cX1_payload 2 (some .int) :: ([.fieldLink RX1 21 "MessageReaderModel" "thrown" "I", .fieldLink RX1 87 "MessageReaderModel" "lastLength" "I", .fieldLink RX1 7 "MessageReaderModel" "bytes" "[I", .fieldLink RX1 84 "MessageReaderModel" "lastPayload" "I"] ++ wsX10)
def wsX1_level : List Cond := .code yX1_level cX1_level 1 (some .int) :: ([.fieldLink RX1 21 "MessageReaderModel" "thrown" "I", .fieldLink RX1 90 "MessageReaderModel" "level" "I"] ++ wsX10)
def wsX1_remaining : List Cond := .code yX1_remaining cX1_remaining 2 (some .long) :: ([.fieldLink RX1 21 "MessageReaderModel" "thrown" "I", .fieldLink RX1 90 "MessageReaderModel" "level" "I", .constantLong RX1 106 (-1), .fieldLink RX1 17 "MessageReaderModel" "open" "[J", .methodLink RX1 24 yX1_fails, .instanceMethod yX1_fails, .selects RX1 yX1_fails yX1_fails, .initialized RX1, .code yX1_fails cX1_fails 3 (some .boolean)] ++ wsX10)
def wsX1_consumed : List Cond := .code yX1_consumed cX1_consumed 1 (some .int) :: ([.fieldLink RX1 21 "MessageReaderModel" "thrown" "I", .fieldLink RX1 37 "MessageReaderModel" "consumed" "I"] ++ wsX10)
def wsX1_whole_r1 : List Cond := [Cond.fieldLink RX1 21 "MessageReaderModel" "thrown" "I", Cond.fieldLink RX1 37 "MessageReaderModel" "consumed" "I", Cond.methodLink RX1 103 yX1_end, Cond.instanceMethod yX1_end, Cond.selects RX1 yX1_end yX1_end, Cond.initialized RX1, Cond.code yX1_end cX1_end 6 (some .int), Cond.fieldLink RX1 50 "MessageReaderModel" "head" "I", Cond.fieldLink RX1 68 "MessageReaderModel" "payload" "J", Cond.fieldLink RX1 71 "MessageReaderModel" "children" "J", Cond.methodLink RX1 93 yX1_look, Cond.instanceMethod yX1_look, Cond.selects RX1 yX1_look yX1_look, Cond.code yX1_look cX1_look 5 (some .int), Cond.fieldLink RX1 28 "MessageReaderModel" "size" "I", Cond.fieldLink RX1 7 "MessageReaderModel" "bytes" "[I", Cond.fieldLink RX1 47 "MessageReaderModel" "sort" "I", Cond.fieldLink RX1 61 "MessageReaderModel" "number" "J", Cond.fieldLink RX1 65 "MessageReaderModel" "type" "I", Cond.constantLong RX1 74 (2147483647), Cond.constantLong RX1 76 (2), Cond.methodLink RX1 40 yX1_widthOf, Cond.static yX1_widthOf, Cond.code yX1_widthOf cX1_widthOf 1 (some .int)]
def wsX1_whole_r2 : List Cond := [Cond.methodLink RX1 44 yX1_kindOf, Cond.static yX1_kindOf, Cond.code yX1_kindOf cX1_kindOf 1 (some .int), Cond.methodLink RX1 53 yX1_ownNumber, Cond.static yX1_ownNumber, Cond.code yX1_ownNumber cX1_ownNumber 1 (some .long), Cond.methodLink RX1 57 yX1_numberAt, Cond.instanceMethod yX1_numberAt, Cond.selects RX1 yX1_numberAt yX1_numberAt, Cond.code yX1_numberAt cX1_numberAt 6 (some .long)]
def wsX1_whole : List Cond := .code yX1_whole cX1_whole 3 (some .int) :: ((wsX1_whole_r1 ++ wsX1_whole_r2) ++ wsX10)
def wsX1_packHead : List Cond := .code yX1_packHead cX1_packHead 6 (some .int) :: ([.fieldLink RX1 28 "MessageReaderModel" "size" "I", .fieldLink RX1 7 "MessageReaderModel" "bytes" "[I", .methodLink RX1 24 yX1_fails, .instanceMethod yX1_fails, .selects RX1 yX1_fails yX1_fails, .initialized RX1, .code yX1_fails cX1_fails 3 (some .boolean), .fieldLink RX1 21 "MessageReaderModel" "thrown" "I", .methodLink RX1 33 yX1_write, .instanceMethod yX1_write, .selects RX1 yX1_write yX1_write, .code yX1_write cX1_write 5 none, .constantLong RX1 31 (255)] ++ wsX10)
def wsX1_log : List Cond := .code yX1_log cX1_log 1 (some .int) :: ([])
def wsX1_needs : List Cond := .code yX1_needs cX1_needs 2 (some .int) :: ([])
def wsX1_needsSigned : List Cond := .code yX1_needsSigned cX1_needsSigned 2 (some .int) :: ([.constantLong RX1 108 (-128), .constantLong RX1 110 (128), .constantLong RX1 112 (-32768), .constantLong RX1 114 (32768), .constantLong RX1 116 (-2147483648), .constantLong RX1 74 (2147483647)])
def wsX1_pack_r1 : List Cond := [Cond.fieldLink RX1 21 "MessageReaderModel" "thrown" "I", Cond.constantLong RX1 118 (4294967295), Cond.constantLong RX1 131 (-32), Cond.constant RX1 136 (65536), Cond.methodLink RX1 24 yX1_fails, Cond.instanceMethod yX1_fails, Cond.selects RX1 yX1_fails yX1_fails, Cond.initialized RX1, Cond.code yX1_fails cX1_fails 3 (some .boolean), Cond.methodLink RX1 120 yX1_needs, Cond.static yX1_needs, Cond.code yX1_needs cX1_needs 2 (some .int), Cond.methodLink RX1 124 yX1_packHead, Cond.instanceMethod yX1_packHead, Cond.selects RX1 yX1_packHead yX1_packHead, Cond.code yX1_packHead cX1_packHead 6 (some .int), Cond.fieldLink RX1 28 "MessageReaderModel" "size" "I", Cond.fieldLink RX1 7 "MessageReaderModel" "bytes" "[I", Cond.methodLink RX1 33 yX1_write, Cond.instanceMethod yX1_write, Cond.selects RX1 yX1_write yX1_write, Cond.code yX1_write cX1_write 5 none, Cond.constantLong RX1 31 (255), Cond.methodLink RX1 128 yX1_log]
def wsX1_pack_r2 : List Cond := [Cond.static yX1_log, Cond.code yX1_log cX1_log 1 (some .int), Cond.methodLink RX1 133 yX1_needsSigned, Cond.static yX1_needsSigned, Cond.code yX1_needsSigned cX1_needsSigned 2 (some .int), Cond.constantLong RX1 108 (-128), Cond.constantLong RX1 110 (128), Cond.constantLong RX1 112 (-32768), Cond.constantLong RX1 114 (32768), Cond.constantLong RX1 116 (-2147483648), Cond.constantLong RX1 74 (2147483647)]
def wsX1_pack : List Cond := .code yX1_pack cX1_pack 11 (some .int) :: ((wsX1_pack_r1 ++ wsX1_pack_r2) ++ wsX10)
def wsL_feed : List Cond := .codeWith yL_feed cL_feed 4 (some .int) [(0, 9, 12, 13), (0, 9, 15, 15)] :: ([.classLink RL 13 "java/lang/IllegalArgumentException", .classLink RL 15 "java/lang/IllegalStateException", .methodLink RL 7 yX0_feed, .instanceMethod yX0_feed, .selects RX0 yX0_feed yX0_feed, .initialized RX0, .code yX0_feed cX0_feed 2 (some .int), .classLink RX0 30 "java/lang/IllegalArgumentException", .initialized "java/lang/IllegalArgumentException", .classLink RX0 41 "java/lang/IllegalStateException", .initialized "java/lang/IllegalStateException", .fieldLink RX0 13 "MessageReader" "size" "I", .methodLink RX0 37 yX0_hasRoom, .instanceMethod yX0_hasRoom, .selects RX0 yX0_hasRoom yX0_hasRoom, .code yX0_hasRoom cX0_hasRoom 2 (some .boolean), .methodLink RX0 46 yX0_append, .instanceMethod yX0_append, .selects RX0 yX0_append yX0_append, .code yX0_append cX0_append 5 none, .fieldLink RX0 9 "MessageReader" "store" "[B"] ++ wsX00 ++ (vx_atS RX0 34 "java/lang/IllegalArgumentException" ["java/lang/RuntimeException", "java/lang/Exception"]).filter goodWord ++ (vx_atS RX0 45 "java/lang/IllegalStateException" ["java/lang/RuntimeException", "java/lang/Exception"]).filter goodWord)
def wsL_put : List Cond := .codeWith yL_put cL_put 6 (some .int) [(0, 11, 14, 13), (0, 11, 18, 15)] :: ([.classLink RL 13 "java/lang/IllegalArgumentException", .classLink RL 15 "java/lang/IllegalStateException", .methodLink RL 17 yX0_put, .instanceMethod yX0_put, .selects RX0 yX0_put yX0_put, .initialized RX0, .code yX0_put cX0_put 4 (some .int), .classLink RX0 30 "java/lang/IllegalArgumentException", .initialized "java/lang/IllegalArgumentException", .classLink RX0 41 "java/lang/IllegalStateException", .initialized "java/lang/IllegalStateException", .fieldLink RX0 13 "MessageReader" "size" "I", .methodLink RX0 37 yX0_hasRoom, .instanceMethod yX0_hasRoom, .selects RX0 yX0_hasRoom yX0_hasRoom, .code yX0_hasRoom cX0_hasRoom 2 (some .boolean), .methodLink RX0 46 yX0_append, .instanceMethod yX0_append, .selects RX0 yX0_append yX0_append, .code yX0_append cX0_append 5 none, .fieldLink RX0 9 "MessageReader" "store" "[B"] ++ wsX00 ++ (vx_atS RX0 34 "java/lang/IllegalArgumentException" ["java/lang/RuntimeException", "java/lang/Exception"]).filter goodWord ++ (vx_atS RX0 45 "java/lang/IllegalStateException" ["java/lang/RuntimeException", "java/lang/Exception"]).filter goodWord)
def wsL_cut : List Cond := .codeWith yL_cut cL_cut 4 (some .int) [(0, 9, 12, 13)] :: ([.classLink RL 13 "java/lang/IllegalArgumentException", .methodLink RL 21 yX0_cut, .instanceMethod yX0_cut, .selects RX0 yX0_cut yX0_cut, .initialized RX0, .code yX0_cut cX0_cut 2 (some .int), .classLink RX0 30 "java/lang/IllegalArgumentException", .initialized "java/lang/IllegalArgumentException", .fieldLink RX0 13 "MessageReader" "size" "I", .fieldLink RX0 17 "MessageReader" "consumed" "I"] ++ wsX00 ++ (vx_atS RX0 34 "java/lang/IllegalArgumentException" ["java/lang/RuntimeException", "java/lang/Exception"]).filter goodWord)
def wsL_byteAt : List Cond := .codeWith yL_byteAt cL_byteAt 4 (some .int) [(0, 9, 12, 13)] :: ([.classLink RL 13 "java/lang/IllegalArgumentException", .methodLink RL 24 yX0_byteAt, .instanceMethod yX0_byteAt, .selects RX0 yX0_byteAt yX0_byteAt, .initialized RX0, .code yX0_byteAt cX0_byteAt 2 (some .int), .classLink RX0 30 "java/lang/IllegalArgumentException", .initialized "java/lang/IllegalArgumentException", .fieldLink RX0 13 "MessageReader" "size" "I", .methodLink RX0 58 yX0_storedByte, .instanceMethod yX0_storedByte, .selects RX0 yX0_storedByte yX0_storedByte, .code yX0_storedByte cX0_storedByte 2 (some .int), .fieldLink RX0 9 "MessageReader" "store" "[B"] ++ wsX00 ++ (vx_atS RX0 34 "java/lang/IllegalArgumentException" ["java/lang/RuntimeException", "java/lang/Exception"]).filter goodWord)
def wsL_remaining : List Cond := .codeWith yL_remaining cL_remaining 4 (some .int) [(0, 8, 11, 13)] :: ([.classLink RL 13 "java/lang/IllegalArgumentException", .methodLink RL 27 yX0_remaining, .instanceMethod yX0_remaining, .selects RX0 yX0_remaining yX0_remaining, .initialized RX0, .code yX0_remaining cX0_remaining 2 (some .long), .classLink RX0 30 "java/lang/IllegalArgumentException", .initialized "java/lang/IllegalArgumentException", .fieldLink RX0 27 "MessageReader" "open" "I", .constantLong RX0 103 (-1), .fieldLink RX0 23 "MessageReader" "childrenLeft" "[J"] ++ wsX00 ++ (vx_atS RX0 34 "java/lang/IllegalArgumentException" ["java/lang/RuntimeException", "java/lang/Exception"]).filter goodWord)
def wsL_pack_r1 : List Cond := [Cond.classLink RL 13 "java/lang/IllegalArgumentException", Cond.classLink RL 15 "java/lang/IllegalStateException", Cond.methodLink RL 31 yX0_pack, Cond.instanceMethod yX0_pack, Cond.selects RX0 yX0_pack yX0_pack, Cond.initialized RX0, Cond.code yX0_pack cX0_pack 8 (some .int), Cond.classLink RX0 30 "java/lang/IllegalArgumentException", Cond.initialized "java/lang/IllegalArgumentException", Cond.classLink RX0 41 "java/lang/IllegalStateException", Cond.initialized "java/lang/IllegalStateException", Cond.methodLink RX0 114 yX0_numberOf, Cond.static yX0_numberOf, Cond.code yX0_numberOf cX0_numberOf 6 (some .long), Cond.constantLong RX0 161 (4294967295), Cond.methodLink RX0 118 yX0_shortestForm, Cond.static yX0_shortestForm, Cond.code yX0_shortestForm cX0_shortestForm 3 (some .int), Cond.constantLong RX0 163 (128), Cond.constantLong RX0 169 (-32), Cond.constantLong RX0 174 (32), Cond.constantLong RX0 176 (16), Cond.methodLink RX0 165 yX0_unsignedStep, Cond.static yX0_unsignedStep]
def wsL_pack_r2 : List Cond := [Cond.code yX0_unsignedStep cX0_unsignedStep 2 (some .int), Cond.methodLink RX0 171 yX0_signedStep, Cond.static yX0_signedStep, Cond.code yX0_signedStep cX0_signedStep 2 (some .int), Cond.methodLink RX0 178 yX0_countStep, Cond.static yX0_countStep, Cond.code yX0_countStep cX0_countStep 2 (some .int), Cond.methodLink RX0 181 yX0_extensionForm, Cond.static yX0_extensionForm, Cond.code yX0_extensionForm cX0_extensionForm 3 (some .int), Cond.methodLink RX0 122 yX0_headLength, Cond.static yX0_headLength, Cond.code yX0_headLength cX0_headLength 1 (some .int), Cond.methodLink RX0 127 yX0_width, Cond.static yX0_width, Cond.code yX0_width cX0_width 1 (some .int), Cond.fieldLink RX0 137 "MessageReader" "ROW_WIDTH" "[I", Cond.methodLink RX0 130 yX0_typeWidth, Cond.static yX0_typeWidth, Cond.code yX0_typeWidth cX0_typeWidth 1 (some .int), Cond.methodLink RX0 140 yX0_kindOf, Cond.static yX0_kindOf, Cond.code yX0_kindOf cX0_kindOf 1 (some .int), Cond.fieldLink RX0 133 "MessageReader" "ROW_KIND" "[I"]
def wsL_pack_r3 : List Cond := [Cond.methodLink RX0 37 yX0_hasRoom, Cond.instanceMethod yX0_hasRoom, Cond.selects RX0 yX0_hasRoom yX0_hasRoom, Cond.code yX0_hasRoom cX0_hasRoom 2 (some .boolean), Cond.fieldLink RX0 13 "MessageReader" "size" "I", Cond.methodLink RX0 46 yX0_append, Cond.instanceMethod yX0_append, Cond.selects RX0 yX0_append yX0_append, Cond.code yX0_append cX0_append 5 none, Cond.fieldLink RX0 9 "MessageReader" "store" "[B"]
def wsL_pack : List Cond := .codeWith yL_pack cL_pack 6 (some .int) [(0, 12, 15, 13), (0, 12, 19, 15)] :: ((wsL_pack_r1 ++ (wsL_pack_r2 ++ wsL_pack_r3)) ++ wsX00 ++ (vx_atS RX0 34 "java/lang/IllegalArgumentException" ["java/lang/RuntimeException", "java/lang/Exception"]).filter goodWord ++ (vx_atS RX0 45 "java/lang/IllegalStateException" ["java/lang/RuntimeException", "java/lang/Exception"]).filter goodWord)
def wsL_law0_r1 : List Cond := [Cond.classLink RL 8 RX0, Cond.instantiable RX0 6, Cond.initialized RX0, Cond.classLink RL 36 RX1, Cond.instantiable RX1 17, Cond.initialized RX1, Cond.arrayClass .long, Cond.constantLong RL 49 (4294967295), Cond.methodLink RL 35 yX0_init, Cond.instanceMethod yX0_init, Cond.code yX0_init cX0_init 1 none, Cond.methodLink RX0 1 objectInit, Cond.instanceMethod objectInit, Cond.code objectInit ⟨#[0xb1]⟩ 1 none, Cond.arrayClass .byte, Cond.fieldLink RX0 9 "MessageReader" "store" "[B", Cond.fieldLink RX0 13 "MessageReader" "size" "I", Cond.fieldLink RX0 17 "MessageReader" "consumed" "I", Cond.fieldLink RX0 20 "MessageReader" "given" "I", Cond.fieldLink RX0 23 "MessageReader" "childrenLeft" "[J", Cond.fieldLink RX0 27 "MessageReader" "open" "I", Cond.methodLink RL 38 yX1_init, Cond.instanceMethod yX1_init, Cond.code yX1_init cX1_init 1 none]
def wsL_law0_r2 : List Cond := [Cond.methodLink RX1 1 objectInit, Cond.arrayClass .int, Cond.fieldLink RX1 7 "MessageReaderModel" "bytes" "[I", Cond.fieldLink RX1 13 "MessageReaderModel" "lastKind" "I", Cond.fieldLink RX1 17 "MessageReaderModel" "open" "[J", Cond.methodLink RL 39 yL_feed, Cond.static yL_feed, Cond.initialized RL, Cond.codeWith yL_feed cL_feed 4 (some .int) [(0, 9, 12, 13), (0, 9, 15, 15)], Cond.classLink RL 13 "java/lang/IllegalArgumentException", Cond.classLink RL 15 "java/lang/IllegalStateException", Cond.methodLink RL 7 yX0_feed, Cond.instanceMethod yX0_feed, Cond.selects RX0 yX0_feed yX0_feed, Cond.code yX0_feed cX0_feed 2 (some .int), Cond.classLink RX0 30 "java/lang/IllegalArgumentException", Cond.initialized "java/lang/IllegalArgumentException", Cond.classLink RX0 41 "java/lang/IllegalStateException", Cond.initialized "java/lang/IllegalStateException", Cond.methodLink RX0 37 yX0_hasRoom, Cond.instanceMethod yX0_hasRoom, Cond.selects RX0 yX0_hasRoom yX0_hasRoom, Cond.code yX0_hasRoom cX0_hasRoom 2 (some .boolean), Cond.methodLink RX0 46 yX0_append]
def wsL_law0_r3 : List Cond := [Cond.instanceMethod yX0_append, Cond.selects RX0 yX0_append yX0_append, Cond.code yX0_append cX0_append 5 none, Cond.methodLink RL 44 yX1_feed, Cond.instanceMethod yX1_feed, Cond.selects RX1 yX1_feed yX1_feed, Cond.code yX1_feed cX1_feed 2 (some .int), Cond.fieldLink RX1 21 "MessageReaderModel" "thrown" "I", Cond.fieldLink RX1 28 "MessageReaderModel" "size" "I", Cond.methodLink RX1 24 yX1_fails, Cond.instanceMethod yX1_fails, Cond.selects RX1 yX1_fails yX1_fails, Cond.code yX1_fails cX1_fails 3 (some .boolean), Cond.methodLink RL 45 yX1_thrown, Cond.instanceMethod yX1_thrown, Cond.selects RX1 yX1_thrown yX1_thrown, Cond.code yX1_thrown cX1_thrown 1 (some .int), Cond.methodLink RL 51 yL_put, Cond.static yL_put, Cond.codeWith yL_put cL_put 6 (some .int) [(0, 11, 14, 13), (0, 11, 18, 15)], Cond.methodLink RL 17 yX0_put, Cond.instanceMethod yX0_put, Cond.selects RX0 yX0_put yX0_put, Cond.code yX0_put cX0_put 4 (some .int)]
def wsL_law0_r4 : List Cond := [Cond.methodLink RL 54 yX1_put, Cond.instanceMethod yX1_put, Cond.selects RX1 yX1_put yX1_put, Cond.code yX1_put cX1_put 4 (some .int), Cond.methodLink RX1 33 yX1_write, Cond.instanceMethod yX1_write, Cond.selects RX1 yX1_write yX1_write, Cond.code yX1_write cX1_write 5 none, Cond.constantLong RX1 31 (255), Cond.methodLink RL 55 yL_cut, Cond.static yL_cut, Cond.codeWith yL_cut cL_cut 4 (some .int) [(0, 9, 12, 13)], Cond.methodLink RL 21 yX0_cut, Cond.instanceMethod yX0_cut, Cond.selects RX0 yX0_cut yX0_cut, Cond.code yX0_cut cX0_cut 2 (some .int), Cond.methodLink RL 57 yX1_cut, Cond.instanceMethod yX1_cut, Cond.selects RX1 yX1_cut yX1_cut, Cond.code yX1_cut cX1_cut 2 (some .int), Cond.fieldLink RX1 37 "MessageReaderModel" "consumed" "I", Cond.methodLink RL 58 yL_byteAt, Cond.static yL_byteAt, Cond.codeWith yL_byteAt cL_byteAt 4 (some .int) [(0, 9, 12, 13)]]
def wsL_law0_r5 : List Cond := [Cond.methodLink RL 24 yX0_byteAt, Cond.instanceMethod yX0_byteAt, Cond.selects RX0 yX0_byteAt yX0_byteAt, Cond.code yX0_byteAt cX0_byteAt 2 (some .int), Cond.methodLink RX0 58 yX0_storedByte, Cond.instanceMethod yX0_storedByte, Cond.selects RX0 yX0_storedByte yX0_storedByte, Cond.code yX0_storedByte cX0_storedByte 2 (some .int), Cond.methodLink RL 60 yX1_byteAt, Cond.instanceMethod yX1_byteAt, Cond.selects RX1 yX1_byteAt yX1_byteAt, Cond.code yX1_byteAt cX1_byteAt 2 (some .int), Cond.methodLink RL 61 yX0_next, Cond.instanceMethod yX0_next, Cond.selects RX0 yX0_next yX0_next, Cond.code yX0_next cX0_next 4 (some .int), Cond.methodLink RX0 62 yX0_lookAt, Cond.instanceMethod yX0_lookAt, Cond.selects RX0 yX0_lookAt yX0_lookAt, Cond.code yX0_lookAt cX0_lookAt 5 (some .int), Cond.constantLong RX0 159 (2147483647), Cond.methodLink RX0 122 yX0_headLength, Cond.static yX0_headLength, Cond.code yX0_headLength cX0_headLength 1 (some .int)]
def wsL_law0_r6 : List Cond := [Cond.methodLink RX0 127 yX0_width, Cond.static yX0_width, Cond.code yX0_width cX0_width 1 (some .int), Cond.fieldLink RX0 137 "MessageReader" "ROW_WIDTH" "[I", Cond.methodLink RX0 130 yX0_typeWidth, Cond.static yX0_typeWidth, Cond.code yX0_typeWidth cX0_typeWidth 1 (some .int), Cond.methodLink RX0 140 yX0_kindOf, Cond.static yX0_kindOf, Cond.code yX0_kindOf cX0_kindOf 1 (some .int), Cond.fieldLink RX0 133 "MessageReader" "ROW_KIND" "[I", Cond.methodLink RX0 89 yX0_numberAt, Cond.instanceMethod yX0_numberAt, Cond.selects RX0 yX0_numberAt yX0_numberAt, Cond.code yX0_numberAt cX0_numberAt 6 (some .long), Cond.methodLink RX0 143 yX0_numberInside, Cond.static yX0_numberInside, Cond.code yX0_numberInside cX0_numberInside 1 (some .long), Cond.methodLink RX0 146 yX0_readNumber, Cond.instanceMethod yX0_readNumber, Cond.selects RX0 yX0_readNumber yX0_readNumber, Cond.code yX0_readNumber cX0_readNumber 6 (some .long), Cond.methodLink RX0 150 yX0_withSign, Cond.static yX0_withSign]
def wsL_law0_r7 : List Cond := [Cond.code yX0_withSign cX0_withSign 4 (some .long), Cond.methodLink RX0 95 yX0_payloadLengthAt, Cond.instanceMethod yX0_payloadLengthAt, Cond.selects RX0 yX0_payloadLengthAt yX0_payloadLengthAt, Cond.code yX0_payloadLengthAt cX0_payloadLengthAt 2 (some .int), Cond.methodLink RX0 86 yX0_kindAt, Cond.instanceMethod yX0_kindAt, Cond.selects RX0 yX0_kindAt yX0_kindAt, Cond.code yX0_kindAt cX0_kindAt 2 (some .int), Cond.methodLink RX0 154 yX0_hasPayload, Cond.static yX0_hasPayload, Cond.code yX0_hasPayload cX0_hasPayload 1 (some .boolean), Cond.methodLink RX0 65 yX0_childrenAt, Cond.instanceMethod yX0_childrenAt, Cond.selects RX0 yX0_childrenAt yX0_childrenAt, Cond.code yX0_childrenAt cX0_childrenAt 2 (some .long), Cond.constantLong RX0 157 (2), Cond.methodLink RX0 69 yX0_countChild, Cond.instanceMethod yX0_countChild, Cond.selects RX0 yX0_countChild yX0_countChild, Cond.code yX0_countChild cX0_countChild 1 none, Cond.methodLink RX0 72 yX0_openContainer, Cond.instanceMethod yX0_openContainer, Cond.selects RX0 yX0_openContainer yX0_openContainer]
def wsL_law0_r8 : List Cond := [Cond.code yX0_openContainer cX0_openContainer 3 none, Cond.methodLink RX0 76 yX0_closeFinished, Cond.instanceMethod yX0_closeFinished, Cond.selects RX0 yX0_closeFinished yX0_closeFinished, Cond.code yX0_closeFinished cX0_closeFinished 1 none, Cond.methodLink RX0 79 yX0_consume, Cond.instanceMethod yX0_consume, Cond.selects RX0 yX0_consume yX0_consume, Cond.code yX0_consume cX0_consume 2 none, Cond.methodLink RX0 105 yX0_endAt, Cond.instanceMethod yX0_endAt, Cond.selects RX0 yX0_endAt yX0_endAt, Cond.code yX0_endAt cX0_endAt 2 (some .int), Cond.methodLink RX0 98 yX0_headLengthAt, Cond.instanceMethod yX0_headLengthAt, Cond.selects RX0 yX0_headLengthAt yX0_headLengthAt, Cond.code yX0_headLengthAt cX0_headLengthAt 2 (some .int), Cond.methodLink RL 64 yX1_next, Cond.instanceMethod yX1_next, Cond.selects RX1 yX1_next yX1_next, Cond.code yX1_next cX1_next 2 (some .int), Cond.fieldLink RX1 71 "MessageReaderModel" "children" "J", Cond.fieldLink RX1 90 "MessageReaderModel" "level" "I", Cond.fieldLink RX1 50 "MessageReaderModel" "head" "I"]
def wsL_law0_r9 : List Cond := [Cond.fieldLink RX1 68 "MessageReaderModel" "payload" "J", Cond.fieldLink RX1 47 "MessageReaderModel" "sort" "I", Cond.methodLink RX1 93 yX1_look, Cond.instanceMethod yX1_look, Cond.selects RX1 yX1_look yX1_look, Cond.code yX1_look cX1_look 5 (some .int), Cond.fieldLink RX1 61 "MessageReaderModel" "number" "J", Cond.fieldLink RX1 65 "MessageReaderModel" "type" "I", Cond.constantLong RX1 74 (2147483647), Cond.constantLong RX1 76 (2), Cond.methodLink RX1 40 yX1_widthOf, Cond.static yX1_widthOf, Cond.code yX1_widthOf cX1_widthOf 1 (some .int), Cond.methodLink RX1 44 yX1_kindOf, Cond.static yX1_kindOf, Cond.code yX1_kindOf cX1_kindOf 1 (some .int), Cond.methodLink RX1 53 yX1_ownNumber, Cond.static yX1_ownNumber, Cond.code yX1_ownNumber cX1_ownNumber 1 (some .long), Cond.methodLink RX1 57 yX1_numberAt, Cond.instanceMethod yX1_numberAt, Cond.selects RX1 yX1_numberAt yX1_numberAt, Cond.code yX1_numberAt cX1_numberAt 6 (some .long), Cond.methodLink RX1 96 yX1_give]
def wsL_law0_r10 : List Cond := [Cond.instanceMethod yX1_give, Cond.selects RX1 yX1_give yX1_give, Cond.code yX1_give cX1_give 2 none, Cond.fieldLink RX1 78 "MessageReaderModel" "low" "I", Cond.fieldLink RX1 81 "MessageReaderModel" "high" "I", Cond.fieldLink RX1 84 "MessageReaderModel" "lastPayload" "I", Cond.fieldLink RX1 87 "MessageReaderModel" "lastLength" "I", Cond.methodLink RX1 100 yX1_closeDone, Cond.instanceMethod yX1_closeDone, Cond.selects RX1 yX1_closeDone yX1_closeDone, Cond.code yX1_closeDone cX1_closeDone 1 none, Cond.methodLink RL 65 yX0_skip, Cond.instanceMethod yX0_skip, Cond.selects RX0 yX0_skip yX0_skip, Cond.code yX0_skip cX0_skip 3 (some .int), Cond.methodLink RX0 83 yX0_lastHeadFrom, Cond.instanceMethod yX0_lastHeadFrom, Cond.selects RX0 yX0_lastHeadFrom yX0_lastHeadFrom, Cond.code yX0_lastHeadFrom cX0_lastHeadFrom 7 (some .int), Cond.methodLink RL 68 yX1_skip, Cond.instanceMethod yX1_skip, Cond.selects RX1 yX1_skip yX1_skip, Cond.code yX1_skip cX1_skip 3 (some .int), Cond.methodLink RX1 103 yX1_end]
def wsL_law0_r11 : List Cond := [Cond.instanceMethod yX1_end, Cond.selects RX1 yX1_end yX1_end, Cond.code yX1_end cX1_end 6 (some .int), Cond.methodLink RL 69 yX0_kind, Cond.instanceMethod yX0_kind, Cond.selects RX0 yX0_kind yX0_kind, Cond.code yX0_kind cX0_kind 1 (some .int), Cond.methodLink RL 72 yX1_kind, Cond.instanceMethod yX1_kind, Cond.selects RX1 yX1_kind yX1_kind, Cond.code yX1_kind cX1_kind 1 (some .int), Cond.methodLink RL 73 yX0_valueLow, Cond.instanceMethod yX0_valueLow, Cond.selects RX0 yX0_valueLow yX0_valueLow, Cond.code yX0_valueLow cX0_valueLow 1 (some .int), Cond.methodLink RL 76 yX1_valueLow, Cond.instanceMethod yX1_valueLow, Cond.selects RX1 yX1_valueLow yX1_valueLow, Cond.code yX1_valueLow cX1_valueLow 1 (some .int), Cond.methodLink RL 77 yX0_valueHigh, Cond.instanceMethod yX0_valueHigh, Cond.selects RX0 yX0_valueHigh yX0_valueHigh, Cond.code yX0_valueHigh cX0_valueHigh 1 (some .int), Cond.methodLink RX0 92 yX0_typeAt]
def wsL_law0_r12 : List Cond := [Cond.instanceMethod yX0_typeAt, Cond.selects RX0 yX0_typeAt yX0_typeAt, Cond.code yX0_typeAt cX0_typeAt 2 (some .int), Cond.methodLink RL 80 yX1_valueHigh, Cond.instanceMethod yX1_valueHigh, Cond.selects RX1 yX1_valueHigh yX1_valueHigh, Cond.code yX1_valueHigh cX1_valueHigh 1 (some .int), Cond.methodLink RL 81 yX0_payload, Cond.instanceMethod yX0_payload, Cond.selects RX0 yX0_payload yX0_payload, Cond.code yX0_payload cX0_payload 2 (some .int), Cond.methodLink RL 84 yX1_payload, Cond.instanceMethod yX1_payload, Cond.selects RX1 yX1_payload yX1_payload, Cond.code yX1_payload cX1_payload 2 (some .int), Cond.methodLink RL 85 yX0_level, Cond.instanceMethod yX0_level, Cond.selects RX0 yX0_level yX0_level, Cond.code yX0_level cX0_level 1 (some .int), Cond.methodLink RL 88 yX1_level, Cond.instanceMethod yX1_level, Cond.selects RX1 yX1_level yX1_level, Cond.code yX1_level cX1_level 1 (some .int), Cond.methodLink RL 89 yL_remaining]
def wsL_law0_r13 : List Cond := [Cond.static yL_remaining, Cond.codeWith yL_remaining cL_remaining 4 (some .int) [(0, 8, 11, 13)], Cond.methodLink RL 27 yX0_remaining, Cond.instanceMethod yX0_remaining, Cond.selects RX0 yX0_remaining yX0_remaining, Cond.code yX0_remaining cX0_remaining 2 (some .long), Cond.constantLong RX0 103 (-1), Cond.methodLink RL 91 yX1_remaining, Cond.instanceMethod yX1_remaining, Cond.selects RX1 yX1_remaining yX1_remaining, Cond.code yX1_remaining cX1_remaining 2 (some .long), Cond.constantLong RX1 106 (-1), Cond.methodLink RL 92 yX0_consumed, Cond.instanceMethod yX0_consumed, Cond.selects RX0 yX0_consumed yX0_consumed, Cond.code yX0_consumed cX0_consumed 1 (some .int), Cond.methodLink RL 95 yX1_consumed, Cond.instanceMethod yX1_consumed, Cond.selects RX1 yX1_consumed yX1_consumed, Cond.code yX1_consumed cX1_consumed 1 (some .int), Cond.methodLink RL 96 yX0_whole, Cond.instanceMethod yX0_whole, Cond.selects RX0 yX0_whole yX0_whole, Cond.code yX0_whole cX0_whole 4 (some .int)]
def wsL_law0_r14 : List Cond := [Cond.methodLink RL 99 yX1_whole, Cond.instanceMethod yX1_whole, Cond.selects RX1 yX1_whole yX1_whole, Cond.code yX1_whole cX1_whole 3 (some .int), Cond.methodLink RL 100 yL_pack, Cond.static yL_pack, Cond.codeWith yL_pack cL_pack 6 (some .int) [(0, 12, 15, 13), (0, 12, 19, 15)], Cond.methodLink RL 31 yX0_pack, Cond.instanceMethod yX0_pack, Cond.selects RX0 yX0_pack yX0_pack, Cond.code yX0_pack cX0_pack 8 (some .int), Cond.methodLink RX0 114 yX0_numberOf, Cond.static yX0_numberOf, Cond.code yX0_numberOf cX0_numberOf 6 (some .long), Cond.constantLong RX0 161 (4294967295), Cond.methodLink RX0 118 yX0_shortestForm, Cond.static yX0_shortestForm, Cond.code yX0_shortestForm cX0_shortestForm 3 (some .int), Cond.constantLong RX0 163 (128), Cond.constantLong RX0 169 (-32), Cond.constantLong RX0 174 (32), Cond.constantLong RX0 176 (16), Cond.methodLink RX0 165 yX0_unsignedStep, Cond.static yX0_unsignedStep]
def wsL_law0_r15 : List Cond := [Cond.code yX0_unsignedStep cX0_unsignedStep 2 (some .int), Cond.methodLink RX0 171 yX0_signedStep, Cond.static yX0_signedStep, Cond.code yX0_signedStep cX0_signedStep 2 (some .int), Cond.methodLink RX0 178 yX0_countStep, Cond.static yX0_countStep, Cond.code yX0_countStep cX0_countStep 2 (some .int), Cond.methodLink RX0 181 yX0_extensionForm, Cond.static yX0_extensionForm, Cond.code yX0_extensionForm cX0_extensionForm 3 (some .int), Cond.methodLink RL 103 yX1_pack, Cond.instanceMethod yX1_pack, Cond.selects RX1 yX1_pack yX1_pack, Cond.code yX1_pack cX1_pack 11 (some .int), Cond.constantLong RX1 118 (4294967295), Cond.constantLong RX1 131 (-32), Cond.constant RX1 136 (65536), Cond.methodLink RX1 120 yX1_needs, Cond.static yX1_needs, Cond.code yX1_needs cX1_needs 2 (some .int), Cond.methodLink RX1 124 yX1_packHead, Cond.instanceMethod yX1_packHead, Cond.selects RX1 yX1_packHead yX1_packHead, Cond.code yX1_packHead cX1_packHead 6 (some .int)]
def wsL_law0_r16 : List Cond := [Cond.methodLink RX1 128 yX1_log, Cond.static yX1_log, Cond.code yX1_log cX1_log 1 (some .int), Cond.methodLink RX1 133 yX1_needsSigned, Cond.static yX1_needsSigned, Cond.code yX1_needsSigned cX1_needsSigned 2 (some .int), Cond.constantLong RX1 108 (-128), Cond.constantLong RX1 110 (128), Cond.constantLong RX1 112 (-32768), Cond.constantLong RX1 114 (32768), Cond.constantLong RX1 116 (-2147483648)]
def wsL_law0 : List Cond := (wsL_law0_r1 ++ (wsL_law0_r2 ++ (wsL_law0_r3 ++ (wsL_law0_r4 ++ (wsL_law0_r5 ++ (wsL_law0_r6 ++ (wsL_law0_r7 ++ (wsL_law0_r8 ++ (wsL_law0_r9 ++ (wsL_law0_r10 ++ (wsL_law0_r11 ++ (wsL_law0_r12 ++ (wsL_law0_r13 ++ (wsL_law0_r14 ++ (wsL_law0_r15 ++ wsL_law0_r16))))))))))))))) ++ wsX00 ++ wsX10 ++ ([] : List Cond)
def wsL_law : List Cond := wsL_law0 ++ (vx_atS RX0 34 "java/lang/IllegalArgumentException" ["java/lang/RuntimeException", "java/lang/Exception"]).filter goodWord ++ (vx_atS RX0 45 "java/lang/IllegalStateException" ["java/lang/RuntimeException", "java/lang/Exception"]).filter goodWord
end
section
set_option maxRecDepth 20000 in
theorem wsL_law_in_r1 : ∀ w ∈ wsL_law0_r1, w ∈ lw_tbl := fun w h => (goodIn_p wsL_law0_r1 [38, 41, 357] (by decide +kernel) (by decide +kernel) w h).1
set_option maxRecDepth 20000 in
theorem wsL_law_in_r2 : ∀ w ∈ wsL_law0_r2, w ∈ lw_tbl := fun w h => (goodIn_p wsL_law0_r2 [194, 264] (by decide +kernel) (by decide +kernel) w h).1
set_option maxRecDepth 20000 in
theorem wsL_law_in_r3 : ∀ w ∈ wsL_law0_r3, w ∈ lw_tbl := fun w h => (goodIn_p wsL_law0_r3 [284, 419, 423, 415, 291] (by decide +kernel) (by decide +kernel) w h).1
set_option maxRecDepth 20000 in
theorem wsL_law_in_r4 : ∀ w ∈ wsL_law0_r4, w ∈ lw_tbl := fun w h => (goodIn_p wsL_law0_r4 [427, 431, 300, 436] (by decide +kernel) (by decide +kernel) w h).1
set_option maxRecDepth 20000 in
theorem wsL_law_in_r5 : ∀ w ∈ wsL_law0_r5, w ∈ lw_tbl := fun w h => (goodIn_p wsL_law0_r5 [308, 74, 440, 66, 70, 77] (by decide +kernel) (by decide +kernel) w h).1
set_option maxRecDepth 20000 in
theorem wsL_law_in_r6 : ∀ w ∈ wsL_law0_r6, w ∈ lw_tbl := fun w h => (goodIn_p wsL_law0_r6 [80, 85, 88, 94, 97, 101] (by decide +kernel) (by decide +kernel) w h).1
set_option maxRecDepth 20000 in
theorem wsL_law_in_r7 : ∀ w ∈ wsL_law0_r7, w ∈ lw_tbl := fun w h => (goodIn_p wsL_law0_r7 [104, 109, 113, 116, 120, 125] (by decide +kernel) (by decide +kernel) w h).1
set_option maxRecDepth 20000 in
theorem wsL_law_in_r8 : ∀ w ∈ wsL_law0_r8, w ∈ lw_tbl := fun w h => (goodIn_p wsL_law0_r8 [129, 133, 137, 141, 145, 444] (by decide +kernel) (by decide +kernel) w h).1
end
section
set_option maxRecDepth 20000 in
theorem wsL_law_in_r9 : ∀ w ∈ wsL_law0_r9, w ∈ lw_tbl := fun w h => (goodIn_p wsL_law0_r9 [448, 451, 454, 457, 461] (by decide +kernel) (by decide +kernel) w h).1
set_option maxRecDepth 20000 in
theorem wsL_law_in_r10 : ∀ w ∈ wsL_law0_r10, w ∈ lw_tbl := fun w h => (goodIn_p wsL_law0_r10 [467, 471, 149, 153, 475] (by decide +kernel) (by decide +kernel) w h).1
set_option maxRecDepth 20000 in
theorem wsL_law_in_r11 : ∀ w ∈ wsL_law0_r11, w ∈ lw_tbl := fun w h => (goodIn_p wsL_law0_r11 [479, 157, 483, 161, 487, 165] (by decide +kernel) (by decide +kernel) w h).1
set_option maxRecDepth 20000 in
theorem wsL_law_in_r12 : ∀ w ∈ wsL_law0_r12, w ∈ lw_tbl := fun w h => (goodIn_p wsL_law0_r12 [169, 491, 173, 495, 177, 499] (by decide +kernel) (by decide +kernel) w h).1
set_option maxRecDepth 20000 in
theorem wsL_law_in_r13 : ∀ w ∈ wsL_law0_r13, w ∈ lw_tbl := fun w h => (goodIn_p wsL_law0_r13 [316, 503, 181, 508, 185] (by decide +kernel) (by decide +kernel) w h).1
set_option maxRecDepth 20000 in
theorem wsL_law_in_r14 : ∀ w ∈ wsL_law0_r14, w ∈ lw_tbl := fun w h => (goodIn_p wsL_law0_r14 [512, 325, 331, 335] (by decide +kernel) (by decide +kernel) w h).1
set_option maxRecDepth 20000 in
theorem wsL_law_in_r15 : ∀ w ∈ wsL_law0_r15, w ∈ lw_tbl := fun w h => (goodIn_p wsL_law0_r15 [339, 343, 348, 351, 516, 520, 524] (by decide +kernel) (by decide +kernel) w h).1
set_option maxRecDepth 20000 in
theorem wsL_law_in_r16 : ∀ w ∈ wsL_law0_r16, w ∈ lw_tbl := fun w h => (goodIn_p wsL_law0_r16 [527, 531] (by decide +kernel) (by decide +kernel) w h).1
theorem wsL_law_in_u0 : ∀ w ∈ wsX00, w ∈ lw_tbl := by decide +kernel
theorem wsL_law_in_u1 : ∀ w ∈ wsX10, w ∈ lw_tbl := by decide +kernel
theorem wsL_law_in0 : ∀ w ∈ wsL_law0, w ∈ lw_tbl := List.forall_mem_append.mpr ⟨List.forall_mem_append.mpr ⟨List.forall_mem_append.mpr ⟨List.forall_mem_append.mpr ⟨wsL_law_in_r1, List.forall_mem_append.mpr ⟨wsL_law_in_r2, List.forall_mem_append.mpr ⟨wsL_law_in_r3, List.forall_mem_append.mpr ⟨wsL_law_in_r4, List.forall_mem_append.mpr ⟨wsL_law_in_r5, List.forall_mem_append.mpr ⟨wsL_law_in_r6, List.forall_mem_append.mpr ⟨wsL_law_in_r7, List.forall_mem_append.mpr ⟨wsL_law_in_r8, List.forall_mem_append.mpr ⟨wsL_law_in_r9, List.forall_mem_append.mpr ⟨wsL_law_in_r10, List.forall_mem_append.mpr ⟨wsL_law_in_r11, List.forall_mem_append.mpr ⟨wsL_law_in_r12, List.forall_mem_append.mpr ⟨wsL_law_in_r13, List.forall_mem_append.mpr ⟨wsL_law_in_r14, List.forall_mem_append.mpr ⟨wsL_law_in_r15, wsL_law_in_r16⟩⟩⟩⟩⟩⟩⟩⟩⟩⟩⟩⟩⟩⟩⟩, wsL_law_in_u0⟩, wsL_law_in_u1⟩, fun _ h => absurd h List.not_mem_nil⟩
theorem wsL_law_x0 : ∀ w ∈ (vx_atS RX0 34 "java/lang/IllegalArgumentException" ["java/lang/RuntimeException", "java/lang/Exception"]).filter goodWord, w ∈ lw_tbl := by decide +kernel
theorem wsL_law_x1 : ∀ w ∈ (vx_atS RX0 45 "java/lang/IllegalStateException" ["java/lang/RuntimeException", "java/lang/Exception"]).filter goodWord, w ∈ lw_tbl := by decide +kernel
theorem wsL_law_in : ∀ w ∈ wsL_law, w ∈ lw_tbl := fun w h => (List.mem_append.mp h).elim (fun h => (List.mem_append.mp h).elim (fun h => wsL_law_in0 w h) (fun h => wsL_law_x0 w h)) (fun h => wsL_law_x1 w h)
theorem inlX0 : ∀ w ∈ wsX00, w ∈ wsL_law := fun _ h => List.mem_append_left _ (List.mem_append_left _ (List.mem_append_left _ (List.mem_append_left _ (List.mem_append_right _ h))))
theorem inX0 : ∀ w ∈ wsX00, w ∈ lw_tbl := fun w h => wsL_law_in w (inlX0 w h)
theorem inlX1 : ∀ w ∈ wsX10, w ∈ wsL_law := fun _ h => List.mem_append_left _ (List.mem_append_left _ (List.mem_append_left _ (List.mem_append_right _ h)))
theorem inX1 : ∀ w ∈ wsX10, w ∈ lw_tbl := fun w h => wsL_law_in w (inlX1 w h)
theorem inJ0 : ∀ w ∈ wsJ00, w ∈ lw_tbl := by decide +kernel
end
section
set_option maxRecDepth 20000 in
theorem ggX0_feed_X0_hasRoom : GoodIn wsX0_feed wsX0_hasRoom := goodIn_r _ [10, 5, 16, 17, 18, 19, 20, 21] (by decide +kernel) (by decide +kernel)
set_option maxRecDepth 20000 in
theorem gX0_feed_X0_hasRoom : GoodIn wsX0_feed (wsV RX0 37 RX0 yX0_hasRoom wsX0_hasRoom) := goodIn_app (goodIn_of _ (by decide +kernel)) ggX0_feed_X0_hasRoom
set_option maxRecDepth 20000 in
theorem ggX0_feed_X0_append : GoodIn wsX0_feed wsX0_append := goodIn_r _ [14, 15, 5, 16, 17, 18, 19, 20, 21] (by decide +kernel) (by decide +kernel)
set_option maxRecDepth 20000 in
theorem gX0_feed_X0_append : GoodIn wsX0_feed (wsV RX0 46 RX0 yX0_append wsX0_append) := goodIn_app (goodIn_of _ (by decide +kernel)) ggX0_feed_X0_append
set_option maxRecDepth 20000 in
theorem ggX0_put_X0_hasRoom : GoodIn wsX0_put wsX0_hasRoom := goodIn_r _ [10, 5, 16, 17, 18, 19, 20, 21] (by decide +kernel) (by decide +kernel)
set_option maxRecDepth 20000 in
theorem gX0_put_X0_hasRoom : GoodIn wsX0_put (wsV RX0 37 RX0 yX0_hasRoom wsX0_hasRoom) := goodIn_app (goodIn_of _ (by decide +kernel)) ggX0_put_X0_hasRoom
set_option maxRecDepth 20000 in
theorem ggX0_put_X0_append : GoodIn wsX0_put wsX0_append := goodIn_r _ [14, 15, 5, 16, 17, 18, 19, 20, 21] (by decide +kernel) (by decide +kernel)
set_option maxRecDepth 20000 in
theorem gX0_put_X0_append : GoodIn wsX0_put (wsV RX0 46 RX0 yX0_append wsX0_append) := goodIn_app (goodIn_of _ (by decide +kernel)) ggX0_put_X0_append
set_option maxRecDepth 20000 in
theorem ggX0_byteAt_X0_storedByte : GoodIn wsX0_byteAt wsX0_storedByte := goodIn_r _ [8, 9, 10, 11, 12, 13, 14, 15] (by decide +kernel) (by decide +kernel)
set_option maxRecDepth 20000 in
theorem gX0_byteAt_X0_storedByte : GoodIn wsX0_byteAt (wsV RX0 58 RX0 yX0_storedByte wsX0_storedByte) := goodIn_app (goodIn_of _ (by decide +kernel)) ggX0_byteAt_X0_storedByte
set_option maxRecDepth 20000 in
theorem ggX0_next_X0_lookAt : GoodIn wsX0_next wsX0_lookAt := goodIn_r _ [7, 8, 9, 10, 11, 12, 6, 13, 14, 15, 16, 17, 18, 19, 20, 21, 22, 23, 24, 25, 26, 27, 28, 29, 30, 31, 32, 33, 34, 35, 36, 37, 38, 39, 40, 41, 42, 43, 44, 45, 46, 47, 48, 49, 50, 51, 52, 53, 85, 86, 87, 88, 89, 90] (by decide +kernel) (by decide +kernel)
set_option maxRecDepth 20000 in
theorem gX0_next_X0_lookAt : GoodIn wsX0_next (wsV RX0 62 RX0 yX0_lookAt wsX0_lookAt) := goodIn_app (goodIn_of _ (by decide +kernel)) ggX0_next_X0_lookAt
set_option maxRecDepth 20000 in
theorem ggX0_next_X0_childrenAt : GoodIn wsX0_next wsX0_childrenAt := goodIn_r _ [57, 58, 47, 48, 49, 6, 50, 10, 11, 12, 13, 14, 25, 26, 27, 28, 29, 30, 31, 32, 18, 19, 20, 21, 33, 34, 35, 36, 37, 38, 39, 40, 41, 42, 85, 86, 87, 88, 89, 90] (by decide +kernel) (by decide +kernel)
set_option maxRecDepth 20000 in
theorem gX0_next_X0_childrenAt : GoodIn wsX0_next (wsV RX0 65 RX0 yX0_childrenAt wsX0_childrenAt) := goodIn_app (goodIn_of _ (by decide +kernel)) ggX0_next_X0_childrenAt
set_option maxRecDepth 20000 in
theorem ggX0_next_X0_countChild : GoodIn wsX0_next wsX0_countChild := goodIn_r _ [62, 2, 63, 85, 86, 87, 88, 89, 90] (by decide +kernel) (by decide +kernel)
set_option maxRecDepth 20000 in
theorem gX0_next_X0_countChild : GoodIn wsX0_next (wsV RX0 69 RX0 yX0_countChild wsX0_countChild) := goodIn_app (goodIn_of _ (by decide +kernel)) ggX0_next_X0_countChild
set_option maxRecDepth 20000 in
theorem ggX0_next_X0_openContainer : GoodIn wsX0_next wsX0_openContainer := goodIn_r _ [67, 2, 63, 85, 86, 87, 88, 89, 90] (by decide +kernel) (by decide +kernel)
set_option maxRecDepth 20000 in
theorem gX0_next_X0_openContainer : GoodIn wsX0_next (wsV RX0 72 RX0 yX0_openContainer wsX0_openContainer) := goodIn_app (goodIn_of _ (by decide +kernel)) ggX0_next_X0_openContainer
set_option maxRecDepth 20000 in
theorem ggX0_next_X0_closeFinished : GoodIn wsX0_next wsX0_closeFinished := goodIn_r _ [71, 2, 63, 85, 86, 87, 88, 89, 90] (by decide +kernel) (by decide +kernel)
set_option maxRecDepth 20000 in
theorem gX0_next_X0_closeFinished : GoodIn wsX0_next (wsV RX0 76 RX0 yX0_closeFinished wsX0_closeFinished) := goodIn_app (goodIn_of _ (by decide +kernel)) ggX0_next_X0_closeFinished
set_option maxRecDepth 20000 in
theorem ggX0_next_X0_consume : GoodIn wsX0_next wsX0_consume := goodIn_r _ [75, 76, 1, 77, 78, 79, 6, 80, 81, 82, 83, 84, 10, 11, 12, 13, 14, 15, 16, 17, 18, 19, 20, 21, 22, 23, 24, 25, 26, 27, 28, 43, 44, 45, 46, 47, 48, 49, 50, 51, 52, 53, 29, 30, 31, 32, 33, 34, 35, 36, 37, 38, 39, 40, 41, 42, 85, 86, 87, 88, 89, 90] (by decide +kernel) (by decide +kernel)
set_option maxRecDepth 20000 in
theorem gX0_next_X0_consume : GoodIn wsX0_next (wsV RX0 79 RX0 yX0_consume wsX0_consume) := goodIn_app (goodIn_of _ (by decide +kernel)) ggX0_next_X0_consume
set_option maxRecDepth 20000 in
theorem ggX0_skip_X0_lastHeadFrom : GoodIn wsX0_skip wsX0_lastHeadFrom := goodIn_r _ [6, 7, 8, 9, 5, 10, 11, 12, 13, 14, 15, 16, 17, 18, 19, 20, 21, 22, 23, 24, 25, 26, 27, 28, 29, 30, 31, 32, 33, 34, 35, 36, 37, 38, 39, 40, 41, 42, 43, 44, 45, 46, 47, 48, 49, 50, 51, 52, 53, 54, 55, 56, 57, 58, 59, 60, 61, 62, 63, 64, 65, 66, 67, 68, 69, 85, 86, 87, 88, 89, 90] (by decide +kernel) (by decide +kernel)
set_option maxRecDepth 20000 in
theorem gX0_skip_X0_lastHeadFrom : GoodIn wsX0_skip (wsV RX0 83 RX0 yX0_lastHeadFrom wsX0_lastHeadFrom) := goodIn_app (goodIn_of _ (by decide +kernel)) ggX0_skip_X0_lastHeadFrom
set_option maxRecDepth 20000 in
theorem ggX0_skip_X0_countChild : GoodIn wsX0_skip wsX0_countChild := goodIn_r _ [73, 74, 75, 85, 86, 87, 88, 89, 90] (by decide +kernel) (by decide +kernel)
set_option maxRecDepth 20000 in
theorem gX0_skip_X0_countChild : GoodIn wsX0_skip (wsV RX0 69 RX0 yX0_countChild wsX0_countChild) := goodIn_app (goodIn_of _ (by decide +kernel)) ggX0_skip_X0_countChild
set_option maxRecDepth 20000 in
theorem ggX0_skip_X0_closeFinished : GoodIn wsX0_skip wsX0_closeFinished := goodIn_r _ [79, 74, 75, 85, 86, 87, 88, 89, 90] (by decide +kernel) (by decide +kernel)
set_option maxRecDepth 20000 in
theorem gX0_skip_X0_closeFinished : GoodIn wsX0_skip (wsV RX0 76 RX0 yX0_closeFinished wsX0_closeFinished) := goodIn_app (goodIn_of _ (by decide +kernel)) ggX0_skip_X0_closeFinished
set_option maxRecDepth 20000 in
theorem ggX0_skip_X0_consume : GoodIn wsX0_skip wsX0_consume := goodIn_r _ [83, 84, 1, 62, 63, 64, 5, 65, 66, 67, 68, 69, 13, 14, 15, 16, 17, 18, 19, 20, 21, 22, 23, 24, 25, 26, 27, 28, 29, 30, 31, 46, 47, 48, 49, 50, 51, 52, 53, 54, 55, 56, 32, 33, 34, 35, 36, 37, 38, 39, 40, 41, 42, 43, 44, 45, 85, 86, 87, 88, 89, 90] (by decide +kernel) (by decide +kernel)
set_option maxRecDepth 20000 in
theorem gX0_skip_X0_consume : GoodIn wsX0_skip (wsV RX0 79 RX0 yX0_consume wsX0_consume) := goodIn_app (goodIn_of _ (by decide +kernel)) ggX0_skip_X0_consume
set_option maxRecDepth 20000 in
theorem ggX0_kind_X0_kindAt : GoodIn wsX0_kind wsX0_kindAt := goodIn_r _ [6, 7, 8, 9, 5, 10, 11, 12, 13, 14, 15, 16, 17, 18, 19, 20, 21] (by decide +kernel) (by decide +kernel)
set_option maxRecDepth 20000 in
theorem gX0_kind_X0_kindAt : GoodIn wsX0_kind (wsV RX0 86 RX0 yX0_kindAt wsX0_kindAt) := goodIn_app (goodIn_of _ (by decide +kernel)) ggX0_kind_X0_kindAt
set_option maxRecDepth 20000 in
theorem ggX0_valueLow_X0_numberAt : GoodIn wsX0_valueLow wsX0_numberAt := goodIn_r _ [6, 7, 8, 9, 5, 10, 11, 12, 13, 14, 15, 16, 17, 18, 19, 20, 21, 22, 23, 24, 25, 26, 27, 28, 29, 30, 31, 32, 33, 34, 35] (by decide +kernel) (by decide +kernel)
set_option maxRecDepth 20000 in
theorem gX0_valueLow_X0_numberAt : GoodIn wsX0_valueLow (wsV RX0 89 RX0 yX0_numberAt wsX0_numberAt) := goodIn_app (goodIn_of _ (by decide +kernel)) ggX0_valueLow_X0_numberAt
set_option maxRecDepth 20000 in
theorem ggX0_valueHigh_X0_kindAt : GoodIn wsX0_valueHigh wsX0_kindAt := goodIn_r _ [6, 7, 8, 9, 5, 10, 11, 12, 13, 14, 15, 48, 49, 50, 51, 52, 53] (by decide +kernel) (by decide +kernel)
set_option maxRecDepth 20000 in
theorem gX0_valueHigh_X0_kindAt : GoodIn wsX0_valueHigh (wsV RX0 86 RX0 yX0_kindAt wsX0_kindAt) := goodIn_app (goodIn_of _ (by decide +kernel)) ggX0_valueHigh_X0_kindAt
set_option maxRecDepth 20000 in
theorem ggX0_valueHigh_X0_typeAt : GoodIn wsX0_valueHigh wsX0_typeAt := goodIn_r _ [19, 11, 20, 21, 22, 5, 23, 7, 8, 9, 10, 24, 25, 26, 27, 28, 29, 30, 31, 32, 33, 12, 13, 14, 15, 48, 49, 50, 51, 52, 53] (by decide +kernel) (by decide +kernel)
set_option maxRecDepth 20000 in
theorem gX0_valueHigh_X0_typeAt : GoodIn wsX0_valueHigh (wsV RX0 92 RX0 yX0_typeAt wsX0_typeAt) := goodIn_app (goodIn_of _ (by decide +kernel)) ggX0_valueHigh_X0_typeAt
set_option maxRecDepth 20000 in
theorem ggX0_valueHigh_X0_numberAt : GoodIn wsX0_valueHigh wsX0_numberAt := goodIn_r _ [37, 7, 8, 9, 5, 10, 11, 27, 28, 29, 30, 38, 39, 40, 12, 13, 14, 15, 41, 42, 43, 44, 45, 46, 47, 48, 49, 50, 51, 52, 53] (by decide +kernel) (by decide +kernel)
set_option maxRecDepth 20000 in
theorem gX0_valueHigh_X0_numberAt : GoodIn wsX0_valueHigh (wsV RX0 89 RX0 yX0_numberAt wsX0_numberAt) := goodIn_app (goodIn_of _ (by decide +kernel)) ggX0_valueHigh_X0_numberAt
set_option maxRecDepth 20000 in
theorem ggX0_payload_X0_payloadLengthAt : GoodIn wsX0_payload wsX0_payloadLengthAt := goodIn_r _ [6, 7, 8, 9, 5, 10, 11, 12, 13, 14, 15, 16, 17, 18, 19, 20, 21, 22, 23, 24, 25, 26, 27, 28, 29, 30, 31, 32, 33, 34, 35, 36, 37, 38, 39, 40, 51, 52, 53, 54, 55, 56] (by decide +kernel) (by decide +kernel)
set_option maxRecDepth 20000 in
theorem gX0_payload_X0_payloadLengthAt : GoodIn wsX0_payload (wsV RX0 95 RX0 yX0_payloadLengthAt wsX0_payloadLengthAt) := goodIn_app (goodIn_of _ (by decide +kernel)) ggX0_payload_X0_payloadLengthAt
set_option maxRecDepth 20000 in
theorem ggX0_payload_X0_headLengthAt : GoodIn wsX0_payload wsX0_headLengthAt := goodIn_r _ [44, 11, 12, 13, 5, 14, 15, 45, 46, 47, 27, 28, 29, 30, 48, 49, 50, 16, 17, 18, 19, 51, 52, 53, 54, 55, 56] (by decide +kernel) (by decide +kernel)
set_option maxRecDepth 20000 in
theorem gX0_payload_X0_headLengthAt : GoodIn wsX0_payload (wsV RX0 98 RX0 yX0_headLengthAt wsX0_headLengthAt) := goodIn_app (goodIn_of _ (by decide +kernel)) ggX0_payload_X0_headLengthAt
set_option maxRecDepth 20000 in
theorem ggX0_payload_X0_storedByte : GoodIn wsX0_payload wsX0_storedByte := goodIn_r _ [14, 15, 51, 52, 53, 54, 55, 56] (by decide +kernel) (by decide +kernel)
set_option maxRecDepth 20000 in
theorem gX0_payload_X0_storedByte : GoodIn wsX0_payload (wsV RX0 58 RX0 yX0_storedByte wsX0_storedByte) := goodIn_app (goodIn_of _ (by decide +kernel)) ggX0_payload_X0_storedByte
set_option maxRecDepth 20000 in
theorem ggX0_whole_X0_lastHeadFrom : GoodIn wsX0_whole wsX0_lastHeadFrom := goodIn_r _ [6, 7, 8, 9, 5, 10, 11, 12, 13, 14, 15, 16, 17, 18, 19, 20, 21, 22, 23, 24, 25, 26, 27, 28, 29, 30, 31, 32, 33, 34, 35, 36, 37, 38, 39, 40, 41, 42, 43, 44, 45, 46, 47, 48, 49, 50, 51, 52, 53, 54, 55, 56, 57, 58, 59, 60, 61, 62, 63, 64, 65, 66, 67, 68, 69, 70, 71, 72, 73, 74, 75] (by decide +kernel) (by decide +kernel)
set_option maxRecDepth 20000 in
theorem gX0_whole_X0_lastHeadFrom : GoodIn wsX0_whole (wsV RX0 83 RX0 yX0_lastHeadFrom wsX0_lastHeadFrom) := goodIn_app (goodIn_of _ (by decide +kernel)) ggX0_whole_X0_lastHeadFrom
set_option maxRecDepth 20000 in
theorem ggX0_whole_X0_endAt : GoodIn wsX0_whole wsX0_endAt := goodIn_r _ [65, 66, 67, 68, 5, 69, 13, 14, 15, 16, 17, 18, 19, 20, 21, 22, 23, 24, 25, 26, 27, 28, 29, 30, 31, 46, 47, 48, 49, 50, 51, 52, 53, 54, 55, 56, 32, 33, 34, 35, 36, 37, 38, 39, 40, 41, 42, 43, 44, 45, 70, 71, 72, 73, 74, 75] (by decide +kernel) (by decide +kernel)
set_option maxRecDepth 20000 in
theorem gX0_whole_X0_endAt : GoodIn wsX0_whole (wsV RX0 105 RX0 yX0_endAt wsX0_endAt) := goodIn_app (goodIn_of _ (by decide +kernel)) ggX0_whole_X0_endAt
set_option maxRecDepth 20000 in
theorem ggX0_pack_X0_numberOf : GoodIn wsX0_pack wsX0_numberOf := goodIn_r _ [8, 9] (by decide +kernel) (by decide +kernel)
set_option maxRecDepth 20000 in
theorem gX0_pack_X0_numberOf : GoodIn wsX0_pack (va_wsS RX0 114 yX0_numberOf wsX0_numberOf) := goodIn_app (goodIn_of _ (by decide +kernel)) ggX0_pack_X0_numberOf
set_option maxRecDepth 20000 in
theorem ggX0_pack_X0_shortestForm : GoodIn wsX0_pack wsX0_shortestForm := goodIn_r _ [12, 13, 14, 15, 16, 17, 18, 7, 19, 20, 21, 22, 23, 24, 25, 26, 27, 28] (by decide +kernel) (by decide +kernel)
set_option maxRecDepth 20000 in
theorem gX0_pack_X0_shortestForm : GoodIn wsX0_pack (va_wsS RX0 118 yX0_shortestForm wsX0_shortestForm) := goodIn_app (goodIn_of _ (by decide +kernel)) ggX0_pack_X0_shortestForm
set_option maxRecDepth 20000 in
theorem ggX0_pack_X0_headLength : GoodIn wsX0_pack wsX0_headLength := goodIn_r _ [31, 32, 33, 7, 34, 35, 36, 37, 38, 39, 40, 41, 42] (by decide +kernel) (by decide +kernel)
set_option maxRecDepth 20000 in
theorem gX0_pack_X0_headLength : GoodIn wsX0_pack (va_wsS RX0 122 yX0_headLength wsX0_headLength) := goodIn_app (goodIn_of _ (by decide +kernel)) ggX0_pack_X0_headLength
set_option maxRecDepth 20000 in
theorem ggX0_pack_X0_hasRoom : GoodIn wsX0_pack wsX0_hasRoom := goodIn_r _ [46, 47, 53, 54, 55, 56, 57, 58] (by decide +kernel) (by decide +kernel)
set_option maxRecDepth 20000 in
theorem gX0_pack_X0_hasRoom : GoodIn wsX0_pack (wsV RX0 37 RX0 yX0_hasRoom wsX0_hasRoom) := goodIn_app (goodIn_of _ (by decide +kernel)) ggX0_pack_X0_hasRoom
set_option maxRecDepth 20000 in
theorem ggX0_pack_X0_append : GoodIn wsX0_pack wsX0_append := goodIn_r _ [51, 52, 47, 53, 54, 55, 56, 57, 58] (by decide +kernel) (by decide +kernel)
set_option maxRecDepth 20000 in
theorem gX0_pack_X0_append : GoodIn wsX0_pack (wsV RX0 46 RX0 yX0_append wsX0_append) := goodIn_app (goodIn_of _ (by decide +kernel)) ggX0_pack_X0_append
set_option maxRecDepth 20000 in
theorem ggX0_pack_X0_width : GoodIn wsX0_pack wsX0_width := goodIn_r _ [34, 35] (by decide +kernel) (by decide +kernel)
set_option maxRecDepth 20000 in
theorem gX0_pack_X0_width : GoodIn wsX0_pack (va_wsS RX0 127 yX0_width wsX0_width) := goodIn_app (goodIn_of _ (by decide +kernel)) ggX0_pack_X0_width
set_option maxRecDepth 20000 in
theorem ggX0_pack_X0_typeWidth : GoodIn wsX0_pack wsX0_typeWidth := goodIn_r _ [38, 39, 40, 7, 41, 42] (by decide +kernel) (by decide +kernel)
set_option maxRecDepth 20000 in
theorem gX0_pack_X0_typeWidth : GoodIn wsX0_pack (va_wsS RX0 130 yX0_typeWidth wsX0_typeWidth) := goodIn_app (goodIn_of _ (by decide +kernel)) ggX0_pack_X0_typeWidth
set_option maxRecDepth 20000 in
theorem ggX0_readNumber_X0_storedByte : GoodIn wsX0_readNumber wsX0_storedByte := goodIn_r _ [5, 6, 7, 8, 9, 10, 11, 12] (by decide +kernel) (by decide +kernel)
set_option maxRecDepth 20000 in
theorem gX0_readNumber_X0_storedByte : GoodIn wsX0_readNumber (wsV RX0 58 RX0 yX0_storedByte wsX0_storedByte) := goodIn_app (goodIn_of _ (by decide +kernel)) ggX0_readNumber_X0_storedByte
set_option maxRecDepth 20000 in
theorem ggX0_typeWidth_X0_kindOf : GoodIn wsX0_typeWidth wsX0_kindOf := goodIn_r _ [4, 5] (by decide +kernel) (by decide +kernel)
set_option maxRecDepth 20000 in
theorem gX0_typeWidth_X0_kindOf : GoodIn wsX0_typeWidth (va_wsS RX0 140 yX0_kindOf wsX0_kindOf) := goodIn_app (goodIn_of _ (by decide +kernel)) ggX0_typeWidth_X0_kindOf
set_option maxRecDepth 20000 in
theorem ggX0_headLength_X0_width : GoodIn wsX0_headLength wsX0_width := goodIn_r _ [4, 5] (by decide +kernel) (by decide +kernel)
set_option maxRecDepth 20000 in
theorem gX0_headLength_X0_width : GoodIn wsX0_headLength (va_wsS RX0 127 yX0_width wsX0_width) := goodIn_app (goodIn_of _ (by decide +kernel)) ggX0_headLength_X0_width
set_option maxRecDepth 20000 in
theorem ggX0_headLength_X0_typeWidth : GoodIn wsX0_headLength wsX0_typeWidth := goodIn_r _ [8, 9, 10, 3, 11, 12] (by decide +kernel) (by decide +kernel)
set_option maxRecDepth 20000 in
theorem gX0_headLength_X0_typeWidth : GoodIn wsX0_headLength (va_wsS RX0 130 yX0_typeWidth wsX0_typeWidth) := goodIn_app (goodIn_of _ (by decide +kernel)) ggX0_headLength_X0_typeWidth
set_option maxRecDepth 20000 in
theorem ggX0_numberInside_X0_kindOf : GoodIn wsX0_numberInside wsX0_kindOf := goodIn_r _ [4, 5] (by decide +kernel) (by decide +kernel)
set_option maxRecDepth 20000 in
theorem gX0_numberInside_X0_kindOf : GoodIn wsX0_numberInside (va_wsS RX0 140 yX0_kindOf wsX0_kindOf) := goodIn_app (goodIn_of _ (by decide +kernel)) ggX0_numberInside_X0_kindOf
set_option maxRecDepth 20000 in
theorem ggX0_kindAt_X0_storedByte : GoodIn wsX0_kindAt wsX0_storedByte := goodIn_r _ [5, 6, 11, 12, 13, 14, 15, 16] (by decide +kernel) (by decide +kernel)
set_option maxRecDepth 20000 in
theorem gX0_kindAt_X0_storedByte : GoodIn wsX0_kindAt (wsV RX0 58 RX0 yX0_storedByte wsX0_storedByte) := goodIn_app (goodIn_of _ (by decide +kernel)) ggX0_kindAt_X0_storedByte
set_option maxRecDepth 20000 in
theorem ggX0_kindAt_X0_kindOf : GoodIn wsX0_kindAt wsX0_kindOf := goodIn_r _ [9, 10] (by decide +kernel) (by decide +kernel)
set_option maxRecDepth 20000 in
theorem gX0_kindAt_X0_kindOf : GoodIn wsX0_kindAt (va_wsS RX0 140 yX0_kindOf wsX0_kindOf) := goodIn_app (goodIn_of _ (by decide +kernel)) ggX0_kindAt_X0_kindOf
set_option maxRecDepth 20000 in
theorem ggX0_headLengthAt_X0_storedByte : GoodIn wsX0_headLengthAt wsX0_storedByte := goodIn_r _ [5, 6, 21, 22, 23, 24, 25, 26] (by decide +kernel) (by decide +kernel)
set_option maxRecDepth 20000 in
theorem gX0_headLengthAt_X0_storedByte : GoodIn wsX0_headLengthAt (wsV RX0 58 RX0 yX0_storedByte wsX0_storedByte) := goodIn_app (goodIn_of _ (by decide +kernel)) ggX0_headLengthAt_X0_storedByte
set_option maxRecDepth 20000 in
theorem ggX0_headLengthAt_X0_headLength : GoodIn wsX0_headLengthAt wsX0_headLength := goodIn_r _ [9, 10, 11, 4, 12, 13, 14, 15, 16, 17, 18, 19, 20] (by decide +kernel) (by decide +kernel)
set_option maxRecDepth 20000 in
theorem gX0_headLengthAt_X0_headLength : GoodIn wsX0_headLengthAt (va_wsS RX0 122 yX0_headLength wsX0_headLength) := goodIn_app (goodIn_of _ (by decide +kernel)) ggX0_headLengthAt_X0_headLength
set_option maxRecDepth 20000 in
theorem ggX0_numberAt_X0_storedByte : GoodIn wsX0_numberAt wsX0_storedByte := goodIn_r _ [5, 6, 25, 26, 27, 28, 29, 30] (by decide +kernel) (by decide +kernel)
set_option maxRecDepth 20000 in
theorem gX0_numberAt_X0_storedByte : GoodIn wsX0_numberAt (wsV RX0 58 RX0 yX0_storedByte wsX0_storedByte) := goodIn_app (goodIn_of _ (by decide +kernel)) ggX0_numberAt_X0_storedByte
set_option maxRecDepth 20000 in
theorem ggX0_numberAt_X0_width : GoodIn wsX0_numberAt wsX0_width := goodIn_r _ [9, 10] (by decide +kernel) (by decide +kernel)
set_option maxRecDepth 20000 in
theorem gX0_numberAt_X0_width : GoodIn wsX0_numberAt (va_wsS RX0 127 yX0_width wsX0_width) := goodIn_app (goodIn_of _ (by decide +kernel)) ggX0_numberAt_X0_width
set_option maxRecDepth 20000 in
theorem ggX0_numberAt_X0_numberInside : GoodIn wsX0_numberAt wsX0_numberInside := goodIn_r _ [13, 14, 15, 4, 16, 17] (by decide +kernel) (by decide +kernel)
set_option maxRecDepth 20000 in
theorem gX0_numberAt_X0_numberInside : GoodIn wsX0_numberAt (va_wsS RX0 143 yX0_numberInside wsX0_numberInside) := goodIn_app (goodIn_of _ (by decide +kernel)) ggX0_numberAt_X0_numberInside
set_option maxRecDepth 20000 in
theorem ggX0_numberAt_X0_readNumber : GoodIn wsX0_numberAt wsX0_readNumber := goodIn_r _ [21, 1, 2, 3, 4, 5, 6, 25, 26, 27, 28, 29, 30] (by decide +kernel) (by decide +kernel)
set_option maxRecDepth 20000 in
theorem gX0_numberAt_X0_readNumber : GoodIn wsX0_numberAt (wsV RX0 146 RX0 yX0_readNumber wsX0_readNumber) := goodIn_app (goodIn_of _ (by decide +kernel)) ggX0_numberAt_X0_readNumber
set_option maxRecDepth 20000 in
theorem ggX0_numberAt_X0_kindOf : GoodIn wsX0_numberAt wsX0_kindOf := goodIn_r _ [16, 17] (by decide +kernel) (by decide +kernel)
set_option maxRecDepth 20000 in
theorem gX0_numberAt_X0_kindOf : GoodIn wsX0_numberAt (va_wsS RX0 140 yX0_kindOf wsX0_kindOf) := goodIn_app (goodIn_of _ (by decide +kernel)) ggX0_numberAt_X0_kindOf
set_option maxRecDepth 20000 in
theorem ggX0_numberAt_X0_withSign : GoodIn wsX0_numberAt wsX0_withSign := goodIn_r _ [24] (by decide +kernel) (by decide +kernel)
set_option maxRecDepth 20000 in
theorem gX0_numberAt_X0_withSign : GoodIn wsX0_numberAt (va_wsS RX0 150 yX0_withSign wsX0_withSign) := goodIn_app (goodIn_of _ (by decide +kernel)) ggX0_numberAt_X0_withSign
set_option maxRecDepth 20000 in
theorem ggX0_typeAt_X0_headLengthAt : GoodIn wsX0_typeAt wsX0_headLengthAt := goodIn_r _ [6, 7, 8, 9, 5, 10, 1, 11, 12, 13, 14, 15, 16, 17, 18, 19, 20, 21, 22, 23, 24, 25, 26, 27, 28, 29, 30] (by decide +kernel) (by decide +kernel)
set_option maxRecDepth 20000 in
theorem gX0_typeAt_X0_headLengthAt : GoodIn wsX0_typeAt (wsV RX0 98 RX0 yX0_headLengthAt wsX0_headLengthAt) := goodIn_app (goodIn_of _ (by decide +kernel)) ggX0_typeAt_X0_headLengthAt
set_option maxRecDepth 20000 in
theorem ggX0_payloadLengthAt_X0_kindAt : GoodIn wsX0_payloadLengthAt wsX0_kindAt := goodIn_r _ [5, 6, 7, 8, 4, 9, 10, 11, 12, 13, 14, 36, 37, 38, 39, 40, 41] (by decide +kernel) (by decide +kernel)
set_option maxRecDepth 20000 in
theorem gX0_payloadLengthAt_X0_kindAt : GoodIn wsX0_payloadLengthAt (wsV RX0 86 RX0 yX0_kindAt wsX0_kindAt) := goodIn_app (goodIn_of _ (by decide +kernel)) ggX0_payloadLengthAt_X0_kindAt
set_option maxRecDepth 20000 in
theorem ggX0_payloadLengthAt_X0_hasPayload : GoodIn wsX0_payloadLengthAt wsX0_hasPayload := goodIn_r _ [17] (by decide +kernel) (by decide +kernel)
set_option maxRecDepth 20000 in
theorem gX0_payloadLengthAt_X0_hasPayload : GoodIn wsX0_payloadLengthAt (va_wsS RX0 154 yX0_hasPayload wsX0_hasPayload) := goodIn_app (goodIn_of _ (by decide +kernel)) ggX0_payloadLengthAt_X0_hasPayload
set_option maxRecDepth 20000 in
theorem ggX0_payloadLengthAt_X0_numberAt : GoodIn wsX0_payloadLengthAt wsX0_numberAt := goodIn_r _ [21, 6, 7, 8, 4, 9, 10, 22, 23, 24, 25, 26, 27, 28, 11, 12, 13, 14, 29, 30, 31, 32, 33, 34, 35, 36, 37, 38, 39, 40, 41] (by decide +kernel) (by decide +kernel)
set_option maxRecDepth 20000 in
theorem gX0_payloadLengthAt_X0_numberAt : GoodIn wsX0_payloadLengthAt (wsV RX0 89 RX0 yX0_numberAt wsX0_numberAt) := goodIn_app (goodIn_of _ (by decide +kernel)) ggX0_payloadLengthAt_X0_numberAt
set_option maxRecDepth 20000 in
theorem ggX0_childrenAt_X0_kindAt : GoodIn wsX0_childrenAt wsX0_kindAt := goodIn_r _ [6, 7, 8, 9, 5, 10, 11, 12, 13, 14, 15, 34, 35, 36, 37, 38, 39] (by decide +kernel) (by decide +kernel)
set_option maxRecDepth 20000 in
theorem gX0_childrenAt_X0_kindAt : GoodIn wsX0_childrenAt (wsV RX0 86 RX0 yX0_kindAt wsX0_kindAt) := goodIn_app (goodIn_of _ (by decide +kernel)) ggX0_childrenAt_X0_kindAt
set_option maxRecDepth 20000 in
theorem ggX0_childrenAt_X0_numberAt : GoodIn wsX0_childrenAt wsX0_numberAt := goodIn_r _ [19, 7, 8, 9, 5, 10, 11, 20, 21, 22, 23, 24, 25, 26, 12, 13, 14, 15, 27, 28, 29, 30, 31, 32, 33, 34, 35, 36, 37, 38, 39] (by decide +kernel) (by decide +kernel)
set_option maxRecDepth 20000 in
theorem gX0_childrenAt_X0_numberAt : GoodIn wsX0_childrenAt (wsV RX0 89 RX0 yX0_numberAt wsX0_numberAt) := goodIn_app (goodIn_of _ (by decide +kernel)) ggX0_childrenAt_X0_numberAt
set_option maxRecDepth 20000 in
theorem ggX0_endAt_X0_headLengthAt : GoodIn wsX0_endAt wsX0_headLengthAt := goodIn_r _ [5, 6, 7, 8, 4, 9, 10, 11, 12, 13, 14, 15, 16, 17, 18, 19, 20, 21, 22, 23, 24, 50, 51, 52, 53, 54, 55] (by decide +kernel) (by decide +kernel)
set_option maxRecDepth 20000 in
theorem gX0_endAt_X0_headLengthAt : GoodIn wsX0_endAt (wsV RX0 98 RX0 yX0_headLengthAt wsX0_headLengthAt) := goodIn_app (goodIn_of _ (by decide +kernel)) ggX0_endAt_X0_headLengthAt
set_option maxRecDepth 20000 in
theorem ggX0_endAt_X0_payloadLengthAt : GoodIn wsX0_endAt wsX0_payloadLengthAt := goodIn_r _ [28, 29, 30, 31, 4, 32, 6, 7, 8, 9, 10, 21, 22, 23, 24, 33, 34, 35, 36, 37, 38, 39, 14, 15, 16, 17, 40, 41, 42, 43, 44, 45, 46, 47, 48, 49, 50, 51, 52, 53, 54, 55] (by decide +kernel) (by decide +kernel)
set_option maxRecDepth 20000 in
theorem gX0_endAt_X0_payloadLengthAt : GoodIn wsX0_endAt (wsV RX0 95 RX0 yX0_payloadLengthAt wsX0_payloadLengthAt) := goodIn_app (goodIn_of _ (by decide +kernel)) ggX0_endAt_X0_payloadLengthAt
set_option maxRecDepth 20000 in
theorem ggX0_lookAt_X0_storedByte : GoodIn wsX0_lookAt wsX0_storedByte := goodIn_r _ [7, 8, 48, 49, 50, 51, 52, 53] (by decide +kernel) (by decide +kernel)
set_option maxRecDepth 20000 in
theorem gX0_lookAt_X0_storedByte : GoodIn wsX0_lookAt (wsV RX0 58 RX0 yX0_storedByte wsX0_storedByte) := goodIn_app (goodIn_of _ (by decide +kernel)) ggX0_lookAt_X0_storedByte
set_option maxRecDepth 20000 in
theorem ggX0_lookAt_X0_headLength : GoodIn wsX0_lookAt wsX0_headLength := goodIn_r _ [11, 12, 13, 6, 14, 15, 16, 17, 18, 19, 20, 21, 22] (by decide +kernel) (by decide +kernel)
set_option maxRecDepth 20000 in
theorem gX0_lookAt_X0_headLength : GoodIn wsX0_lookAt (va_wsS RX0 122 yX0_headLength wsX0_headLength) := goodIn_app (goodIn_of _ (by decide +kernel)) ggX0_lookAt_X0_headLength
set_option maxRecDepth 20000 in
theorem ggX0_lookAt_X0_kindOf : GoodIn wsX0_lookAt wsX0_kindOf := goodIn_r _ [21, 22] (by decide +kernel) (by decide +kernel)
set_option maxRecDepth 20000 in
theorem gX0_lookAt_X0_kindOf : GoodIn wsX0_lookAt (va_wsS RX0 140 yX0_kindOf wsX0_kindOf) := goodIn_app (goodIn_of _ (by decide +kernel)) ggX0_lookAt_X0_kindOf
set_option maxRecDepth 20000 in
theorem ggX0_lookAt_X0_numberAt : GoodIn wsX0_lookAt wsX0_numberAt := goodIn_r _ [26, 3, 4, 5, 6, 7, 8, 12, 13, 14, 15, 27, 28, 29, 19, 20, 21, 22, 30, 31, 32, 33, 34, 35, 36, 48, 49, 50, 51, 52, 53] (by decide +kernel) (by decide +kernel)
set_option maxRecDepth 20000 in
theorem gX0_lookAt_X0_numberAt : GoodIn wsX0_lookAt (wsV RX0 89 RX0 yX0_numberAt wsX0_numberAt) := goodIn_app (goodIn_of _ (by decide +kernel)) ggX0_lookAt_X0_numberAt
set_option maxRecDepth 20000 in
theorem ggX0_lookAt_X0_payloadLengthAt : GoodIn wsX0_lookAt wsX0_payloadLengthAt := goodIn_r _ [40, 41, 42, 43, 6, 44, 3, 4, 5, 7, 8, 19, 20, 21, 22, 45, 46, 47, 23, 24, 25, 26, 12, 13, 14, 15, 27, 28, 29, 30, 31, 32, 33, 34, 35, 36, 48, 49, 50, 51, 52, 53] (by decide +kernel) (by decide +kernel)
set_option maxRecDepth 20000 in
theorem gX0_lookAt_X0_payloadLengthAt : GoodIn wsX0_lookAt (wsV RX0 95 RX0 yX0_payloadLengthAt wsX0_payloadLengthAt) := goodIn_app (goodIn_of _ (by decide +kernel)) ggX0_lookAt_X0_payloadLengthAt
set_option maxRecDepth 20000 in
theorem ggX0_lastHeadFrom_X0_lookAt : GoodIn wsX0_lastHeadFrom wsX0_lookAt := goodIn_r _ [5, 6, 7, 8, 9, 10, 4, 11, 12, 13, 14, 15, 16, 17, 18, 19, 20, 21, 22, 23, 24, 25, 26, 27, 28, 29, 30, 31, 32, 33, 34, 35, 36, 37, 38, 39, 40, 41, 42, 43, 44, 45, 46, 47, 48, 49, 50, 51, 65, 66, 67, 68, 69, 70] (by decide +kernel) (by decide +kernel)
set_option maxRecDepth 20000 in
theorem gX0_lastHeadFrom_X0_lookAt : GoodIn wsX0_lastHeadFrom (wsV RX0 62 RX0 yX0_lookAt wsX0_lookAt) := goodIn_app (goodIn_of _ (by decide +kernel)) ggX0_lastHeadFrom_X0_lookAt
set_option maxRecDepth 20000 in
theorem ggX0_lastHeadFrom_X0_childrenAt : GoodIn wsX0_lastHeadFrom wsX0_childrenAt := goodIn_r _ [55, 56, 45, 46, 47, 4, 48, 8, 9, 10, 11, 12, 23, 24, 25, 26, 27, 28, 29, 30, 16, 17, 18, 19, 31, 32, 33, 34, 35, 36, 37, 38, 39, 40, 65, 66, 67, 68, 69, 70] (by decide +kernel) (by decide +kernel)
set_option maxRecDepth 20000 in
theorem gX0_lastHeadFrom_X0_childrenAt : GoodIn wsX0_lastHeadFrom (wsV RX0 65 RX0 yX0_childrenAt wsX0_childrenAt) := goodIn_app (goodIn_of _ (by decide +kernel)) ggX0_lastHeadFrom_X0_childrenAt
set_option maxRecDepth 20000 in
theorem ggX0_lastHeadFrom_X0_endAt : GoodIn wsX0_lastHeadFrom wsX0_endAt := goodIn_r _ [60, 61, 62, 63, 4, 64, 8, 9, 10, 11, 12, 13, 14, 15, 16, 17, 18, 19, 20, 21, 22, 23, 24, 25, 26, 41, 42, 43, 44, 45, 46, 47, 48, 49, 50, 51, 27, 28, 29, 30, 31, 32, 33, 34, 35, 36, 37, 38, 39, 40, 65, 66, 67, 68, 69, 70] (by decide +kernel) (by decide +kernel)
set_option maxRecDepth 20000 in
theorem gX0_lastHeadFrom_X0_endAt : GoodIn wsX0_lastHeadFrom (wsV RX0 105 RX0 yX0_endAt wsX0_endAt) := goodIn_app (goodIn_of _ (by decide +kernel)) ggX0_lastHeadFrom_X0_endAt
set_option maxRecDepth 20000 in
theorem ggX0_consume_X0_endAt : GoodIn wsX0_consume wsX0_endAt := goodIn_r _ [7, 8, 9, 10, 6, 11, 12, 13, 14, 15, 16, 17, 18, 19, 20, 21, 22, 23, 24, 25, 26, 27, 28, 29, 30, 31, 32, 33, 34, 35, 36, 37, 38, 39, 40, 41, 42, 43, 44, 45, 46, 47, 48, 49, 50, 51, 52, 53, 54, 55, 56, 57, 58, 59, 60, 61] (by decide +kernel) (by decide +kernel)
set_option maxRecDepth 20000 in
theorem gX0_consume_X0_endAt : GoodIn wsX0_consume (wsV RX0 105 RX0 yX0_endAt wsX0_endAt) := goodIn_app (goodIn_of _ (by decide +kernel)) ggX0_consume_X0_endAt
set_option maxRecDepth 20000 in
theorem ggX0_shortestForm_X0_unsignedStep : GoodIn wsX0_shortestForm wsX0_unsignedStep := goodIn_r _ [8] (by decide +kernel) (by decide +kernel)
set_option maxRecDepth 20000 in
theorem gX0_shortestForm_X0_unsignedStep : GoodIn wsX0_shortestForm (va_wsS RX0 165 yX0_unsignedStep wsX0_unsignedStep) := goodIn_app (goodIn_of _ (by decide +kernel)) ggX0_shortestForm_X0_unsignedStep
set_option maxRecDepth 20000 in
theorem ggX0_shortestForm_X0_signedStep : GoodIn wsX0_shortestForm wsX0_signedStep := goodIn_r _ [11] (by decide +kernel) (by decide +kernel)
set_option maxRecDepth 20000 in
theorem gX0_shortestForm_X0_signedStep : GoodIn wsX0_shortestForm (va_wsS RX0 171 yX0_signedStep wsX0_signedStep) := goodIn_app (goodIn_of _ (by decide +kernel)) ggX0_shortestForm_X0_signedStep
set_option maxRecDepth 20000 in
theorem ggX0_shortestForm_X0_countStep : GoodIn wsX0_shortestForm wsX0_countStep := goodIn_r _ [14] (by decide +kernel) (by decide +kernel)
set_option maxRecDepth 20000 in
theorem gX0_shortestForm_X0_countStep : GoodIn wsX0_shortestForm (va_wsS RX0 178 yX0_countStep wsX0_countStep) := goodIn_app (goodIn_of _ (by decide +kernel)) ggX0_shortestForm_X0_countStep
set_option maxRecDepth 20000 in
theorem ggX0_shortestForm_X0_extensionForm : GoodIn wsX0_shortestForm wsX0_extensionForm := goodIn_r _ [17, 5, 6, 7, 8] (by decide +kernel) (by decide +kernel)
set_option maxRecDepth 20000 in
theorem gX0_shortestForm_X0_extensionForm : GoodIn wsX0_shortestForm (va_wsS RX0 181 yX0_extensionForm wsX0_extensionForm) := goodIn_app (goodIn_of _ (by decide +kernel)) ggX0_shortestForm_X0_extensionForm
set_option maxRecDepth 20000 in
theorem ggX0_extensionForm_X0_unsignedStep : GoodIn wsX0_extensionForm wsX0_unsignedStep := goodIn_r _ [4] (by decide +kernel) (by decide +kernel)
set_option maxRecDepth 20000 in
theorem gX0_extensionForm_X0_unsignedStep : GoodIn wsX0_extensionForm (va_wsS RX0 165 yX0_unsignedStep wsX0_unsignedStep) := goodIn_app (goodIn_of _ (by decide +kernel)) ggX0_extensionForm_X0_unsignedStep
set_option maxRecDepth 20000 in
theorem ggX1_feed_X1_fails : GoodIn wsX1_feed wsX1_fails := goodIn_r _ [8, 1, 9, 10, 11, 12, 13, 14, 15, 16, 17, 18, 19, 20, 21, 22, 23, 24, 25] (by decide +kernel) (by decide +kernel)
set_option maxRecDepth 20000 in
theorem gX1_feed_X1_fails : GoodIn wsX1_feed (wsV RX1 24 RX1 yX1_fails wsX1_fails) := goodIn_app (goodIn_of _ (by decide +kernel)) ggX1_feed_X1_fails
set_option maxRecDepth 20000 in
theorem ggX1_put_X1_fails : GoodIn wsX1_put wsX1_fails := goodIn_r _ [7, 1, 14, 15, 16, 17, 18, 19, 20, 21, 22, 23, 24, 25, 26, 27, 28, 29, 30] (by decide +kernel) (by decide +kernel)
set_option maxRecDepth 20000 in
theorem gX1_put_X1_fails : GoodIn wsX1_put (wsV RX1 24 RX1 yX1_fails wsX1_fails) := goodIn_app (goodIn_of _ (by decide +kernel)) ggX1_put_X1_fails
set_option maxRecDepth 20000 in
theorem ggX1_put_X1_write : GoodIn wsX1_put wsX1_write := goodIn_r _ [11, 12, 2, 13, 14, 15, 16, 17, 18, 19, 20, 21, 22, 23, 24, 25, 26, 27, 28, 29, 30] (by decide +kernel) (by decide +kernel)
set_option maxRecDepth 20000 in
theorem gX1_put_X1_write : GoodIn wsX1_put (wsV RX1 33 RX1 yX1_write wsX1_write) := goodIn_app (goodIn_of _ (by decide +kernel)) ggX1_put_X1_write
set_option maxRecDepth 20000 in
theorem ggX1_cut_X1_fails : GoodIn wsX1_cut wsX1_fails := goodIn_r _ [8, 1, 9, 10, 11, 12, 13, 14, 15, 16, 17, 18, 19, 20, 21, 22, 23, 24, 25] (by decide +kernel) (by decide +kernel)
set_option maxRecDepth 20000 in
theorem gX1_cut_X1_fails : GoodIn wsX1_cut (wsV RX1 24 RX1 yX1_fails wsX1_fails) := goodIn_app (goodIn_of _ (by decide +kernel)) ggX1_cut_X1_fails
set_option maxRecDepth 20000 in
theorem ggX1_byteAt_X1_fails : GoodIn wsX1_byteAt wsX1_fails := goodIn_r _ [8, 1, 9, 10, 11, 12, 13, 14, 15, 16, 17, 18, 19, 20, 21, 22, 23, 24, 25] (by decide +kernel) (by decide +kernel)
set_option maxRecDepth 20000 in
theorem gX1_byteAt_X1_fails : GoodIn wsX1_byteAt (wsV RX1 24 RX1 yX1_fails wsX1_fails) := goodIn_app (goodIn_of _ (by decide +kernel)) ggX1_byteAt_X1_fails
set_option maxRecDepth 20000 in
theorem ggX1_look_X1_widthOf : GoodIn wsX1_look wsX1_widthOf := goodIn_r _ [14] (by decide +kernel) (by decide +kernel)
set_option maxRecDepth 20000 in
theorem gX1_look_X1_widthOf : GoodIn wsX1_look (va_wsS RX1 40 yX1_widthOf wsX1_widthOf) := goodIn_app (goodIn_of _ (by decide +kernel)) ggX1_look_X1_widthOf
set_option maxRecDepth 20000 in
theorem ggX1_look_X1_kindOf : GoodIn wsX1_look wsX1_kindOf := goodIn_r _ [17] (by decide +kernel) (by decide +kernel)
set_option maxRecDepth 20000 in
theorem gX1_look_X1_kindOf : GoodIn wsX1_look (va_wsS RX1 44 yX1_kindOf wsX1_kindOf) := goodIn_app (goodIn_of _ (by decide +kernel)) ggX1_look_X1_kindOf
set_option maxRecDepth 20000 in
theorem ggX1_look_X1_ownNumber : GoodIn wsX1_look wsX1_ownNumber := goodIn_r _ [20] (by decide +kernel) (by decide +kernel)
set_option maxRecDepth 20000 in
theorem gX1_look_X1_ownNumber : GoodIn wsX1_look (va_wsS RX1 53 yX1_ownNumber wsX1_ownNumber) := goodIn_app (goodIn_of _ (by decide +kernel)) ggX1_look_X1_ownNumber
set_option maxRecDepth 20000 in
theorem ggX1_look_X1_numberAt : GoodIn wsX1_look wsX1_numberAt := goodIn_r _ [24, 2, 25, 26, 27, 28, 29, 30, 31, 32, 33, 34, 35, 36, 37, 38, 39, 40, 41] (by decide +kernel) (by decide +kernel)
set_option maxRecDepth 20000 in
theorem gX1_look_X1_numberAt : GoodIn wsX1_look (wsV RX1 57 RX1 yX1_numberAt wsX1_numberAt) := goodIn_app (goodIn_of _ (by decide +kernel)) ggX1_look_X1_numberAt
set_option maxRecDepth 20000 in
theorem ggX1_next_X1_look : GoodIn wsX1_next wsX1_look := goodIn_r _ [13, 14, 15, 8, 5, 16, 17, 6, 3, 18, 19, 20, 21, 12, 22, 23, 24, 25, 26, 27, 28, 29, 30, 31, 32, 46, 47, 48, 49, 50, 51, 52, 53, 54, 55, 56, 57, 58, 59, 60, 61, 62] (by decide +kernel) (by decide +kernel)
set_option maxRecDepth 20000 in
theorem gX1_next_X1_look : GoodIn wsX1_next (wsV RX1 93 RX1 yX1_look wsX1_look) := goodIn_app (goodIn_of _ (by decide +kernel)) ggX1_next_X1_look
set_option maxRecDepth 20000 in
theorem ggX1_next_X1_give : GoodIn wsX1_next wsX1_give := goodIn_r _ [36, 8, 37, 16, 38, 17, 39, 40, 6, 41, 46, 47, 48, 49, 50, 51, 52, 53, 54, 55, 56, 57, 58, 59, 60, 61, 62] (by decide +kernel) (by decide +kernel)
set_option maxRecDepth 20000 in
theorem gX1_next_X1_give : GoodIn wsX1_next (wsV RX1 96 RX1 yX1_give wsX1_give) := goodIn_app (goodIn_of _ (by decide +kernel)) ggX1_next_X1_give
set_option maxRecDepth 20000 in
theorem ggX1_next_X1_closeDone : GoodIn wsX1_next wsX1_closeDone := goodIn_r _ [45, 4, 7, 46, 47, 48, 49, 50, 51, 52, 53, 54, 55, 56, 57, 58, 59, 60, 61, 62] (by decide +kernel) (by decide +kernel)
set_option maxRecDepth 20000 in
theorem gX1_next_X1_closeDone : GoodIn wsX1_next (wsV RX1 100 RX1 yX1_closeDone wsX1_closeDone) := goodIn_app (goodIn_of _ (by decide +kernel)) ggX1_next_X1_closeDone
set_option maxRecDepth 20000 in
theorem ggX1_end_X1_look : GoodIn wsX1_end wsX1_look := goodIn_r _ [8, 9, 10, 11, 1, 12, 13, 2, 3, 14, 15, 16, 17, 7, 18, 19, 20, 21, 22, 23, 24, 25, 26, 27, 28, 29, 30, 31, 32, 33, 34, 35, 36, 37, 38, 39, 40, 41, 42, 43, 44, 45] (by decide +kernel) (by decide +kernel)
set_option maxRecDepth 20000 in
theorem gX1_end_X1_look : GoodIn wsX1_end (wsV RX1 93 RX1 yX1_look wsX1_look) := goodIn_app (goodIn_of _ (by decide +kernel)) ggX1_end_X1_look
set_option maxRecDepth 20000 in
theorem ggX1_skip_X1_end : GoodIn wsX1_skip wsX1_end := goodIn_r _ [10, 11, 3, 12, 13, 14, 15, 9, 16, 17, 18, 19, 20, 21, 22, 23, 24, 25, 26, 27, 28, 29, 30, 31, 32, 33, 34, 35, 36, 50, 51, 52, 53, 54, 55, 56, 57, 58, 59, 60, 61, 62, 63, 64, 65, 66] (by decide +kernel) (by decide +kernel)
set_option maxRecDepth 20000 in
theorem gX1_skip_X1_end : GoodIn wsX1_skip (wsV RX1 103 RX1 yX1_end wsX1_end) := goodIn_app (goodIn_of _ (by decide +kernel)) ggX1_skip_X1_end
set_option maxRecDepth 20000 in
theorem ggX1_skip_X1_give : GoodIn wsX1_skip wsX1_give := goodIn_r _ [40, 19, 41, 20, 42, 21, 43, 44, 3, 45, 50, 51, 52, 53, 54, 55, 56, 57, 58, 59, 60, 61, 62, 63, 64, 65, 66] (by decide +kernel) (by decide +kernel)
set_option maxRecDepth 20000 in
theorem gX1_skip_X1_give : GoodIn wsX1_skip (wsV RX1 96 RX1 yX1_give wsX1_give) := goodIn_app (goodIn_of _ (by decide +kernel)) ggX1_skip_X1_give
set_option maxRecDepth 20000 in
theorem ggX1_skip_X1_closeDone : GoodIn wsX1_skip wsX1_closeDone := goodIn_r _ [49, 4, 5, 50, 51, 52, 53, 54, 55, 56, 57, 58, 59, 60, 61, 62, 63, 64, 65, 66] (by decide +kernel) (by decide +kernel)
set_option maxRecDepth 20000 in
theorem gX1_skip_X1_closeDone : GoodIn wsX1_skip (wsV RX1 100 RX1 yX1_closeDone wsX1_closeDone) := goodIn_app (goodIn_of _ (by decide +kernel)) ggX1_skip_X1_closeDone
set_option maxRecDepth 20000 in
theorem ggX1_remaining_X1_fails : GoodIn wsX1_remaining wsX1_fails := goodIn_r _ [9, 1, 10, 11, 12, 13, 14, 15, 16, 17, 18, 19, 20, 21, 22, 23, 24, 25, 26] (by decide +kernel) (by decide +kernel)
set_option maxRecDepth 20000 in
theorem gX1_remaining_X1_fails : GoodIn wsX1_remaining (wsV RX1 24 RX1 yX1_fails wsX1_fails) := goodIn_app (goodIn_of _ (by decide +kernel)) ggX1_remaining_X1_fails
set_option maxRecDepth 20000 in
theorem ggX1_whole_X1_end : GoodIn wsX1_whole wsX1_end := goodIn_r _ [7, 8, 9, 10, 11, 12, 13, 6, 14, 15, 16, 17, 18, 19, 20, 21, 22, 23, 24, 25, 26, 27, 28, 29, 30, 31, 32, 33, 34, 35, 36, 37, 38, 39, 40, 41, 42, 43, 44, 45, 46, 47, 48, 49, 50, 51] (by decide +kernel) (by decide +kernel)
set_option maxRecDepth 20000 in
theorem gX1_whole_X1_end : GoodIn wsX1_whole (wsV RX1 103 RX1 yX1_end wsX1_end) := goodIn_app (goodIn_of _ (by decide +kernel)) ggX1_whole_X1_end
set_option maxRecDepth 20000 in
theorem ggX1_packHead_X1_fails : GoodIn wsX1_packHead wsX1_fails := goodIn_r _ [7, 8, 14, 15, 16, 17, 18, 19, 20, 21, 22, 23, 24, 25, 26, 27, 28, 29, 30] (by decide +kernel) (by decide +kernel)
set_option maxRecDepth 20000 in
theorem gX1_packHead_X1_fails : GoodIn wsX1_packHead (wsV RX1 24 RX1 yX1_fails wsX1_fails) := goodIn_app (goodIn_of _ (by decide +kernel)) ggX1_packHead_X1_fails
set_option maxRecDepth 20000 in
theorem ggX1_packHead_X1_write : GoodIn wsX1_packHead wsX1_write := goodIn_r _ [12, 2, 1, 13, 14, 15, 16, 17, 18, 19, 20, 21, 22, 23, 24, 25, 26, 27, 28, 29, 30] (by decide +kernel) (by decide +kernel)
set_option maxRecDepth 20000 in
theorem gX1_packHead_X1_write : GoodIn wsX1_packHead (wsV RX1 33 RX1 yX1_write wsX1_write) := goodIn_app (goodIn_of _ (by decide +kernel)) ggX1_packHead_X1_write
set_option maxRecDepth 20000 in
theorem ggX1_pack_X1_fails : GoodIn wsX1_pack wsX1_fails := goodIn_r _ [9, 1, 36, 37, 38, 39, 40, 41, 42, 43, 44, 45, 46, 47, 48, 49, 50, 51, 52] (by decide +kernel) (by decide +kernel)
set_option maxRecDepth 20000 in
theorem gX1_pack_X1_fails : GoodIn wsX1_pack (wsV RX1 24 RX1 yX1_fails wsX1_fails) := goodIn_app (goodIn_of _ (by decide +kernel)) ggX1_pack_X1_fails
set_option maxRecDepth 20000 in
theorem ggX1_pack_X1_needs : GoodIn wsX1_pack wsX1_needs := goodIn_r _ [12] (by decide +kernel) (by decide +kernel)
set_option maxRecDepth 20000 in
theorem gX1_pack_X1_needs : GoodIn wsX1_pack (va_wsS RX1 120 yX1_needs wsX1_needs) := goodIn_app (goodIn_of _ (by decide +kernel)) ggX1_pack_X1_needs
set_option maxRecDepth 20000 in
theorem ggX1_pack_X1_packHead : GoodIn wsX1_pack wsX1_packHead := goodIn_r _ [16, 17, 18, 5, 6, 7, 8, 9, 1, 19, 20, 21, 22, 23, 36, 37, 38, 39, 40, 41, 42, 43, 44, 45, 46, 47, 48, 49, 50, 51, 52] (by decide +kernel) (by decide +kernel)
set_option maxRecDepth 20000 in
theorem gX1_pack_X1_packHead : GoodIn wsX1_pack (wsV RX1 124 RX1 yX1_packHead wsX1_packHead) := goodIn_app (goodIn_of _ (by decide +kernel)) ggX1_pack_X1_packHead
set_option maxRecDepth 20000 in
theorem ggX1_pack_X1_log : GoodIn wsX1_pack wsX1_log := goodIn_r _ [26] (by decide +kernel) (by decide +kernel)
set_option maxRecDepth 20000 in
theorem gX1_pack_X1_log : GoodIn wsX1_pack (va_wsS RX1 128 yX1_log wsX1_log) := goodIn_app (goodIn_of _ (by decide +kernel)) ggX1_pack_X1_log
set_option maxRecDepth 20000 in
theorem ggX1_pack_X1_needsSigned : GoodIn wsX1_pack wsX1_needsSigned := goodIn_r _ [29, 30, 31, 32, 33, 34, 35] (by decide +kernel) (by decide +kernel)
set_option maxRecDepth 20000 in
theorem gX1_pack_X1_needsSigned : GoodIn wsX1_pack (va_wsS RX1 133 yX1_needsSigned wsX1_needsSigned) := goodIn_app (goodIn_of _ (by decide +kernel)) ggX1_pack_X1_needsSigned
set_option maxRecDepth 20000 in
theorem ggL_feed_X0_feed : GoodIn wsL_feed wsX0_feed := goodIn_ca (goodIn_ca (goodIn_r _ [7, 8, 9, 10, 11, 12, 13, 14, 15, 6, 16, 17, 18, 19, 20, 21, 22, 23, 24, 25, 26, 27] (by decide +kernel) (by decide +kernel)) (goodIn_sub (fun _ h => List.mem_cons_of_mem _ (List.mem_append_left _ (List.mem_append_right _ h))) (by decide +kernel))) (goodIn_sub (fun _ h => List.mem_cons_of_mem _ (List.mem_append_right _ h)) (by decide +kernel))
set_option maxRecDepth 20000 in
theorem gL_feed_X0_feed : GoodIn wsL_feed (wsV RL 7 RX0 yX0_feed wsX0_feed) := goodIn_app (goodIn_of _ (by decide +kernel)) ggL_feed_X0_feed
set_option maxRecDepth 20000 in
theorem ggL_put_X0_put : GoodIn wsL_put wsX0_put := goodIn_ca (goodIn_ca (goodIn_r _ [7, 8, 9, 10, 11, 12, 13, 14, 15, 6, 16, 17, 18, 19, 20, 21, 22, 23, 24, 25, 26, 27] (by decide +kernel) (by decide +kernel)) (goodIn_sub (fun _ h => List.mem_cons_of_mem _ (List.mem_append_left _ (List.mem_append_right _ h))) (by decide +kernel))) (goodIn_sub (fun _ h => List.mem_cons_of_mem _ (List.mem_append_right _ h)) (by decide +kernel))
set_option maxRecDepth 20000 in
theorem gL_put_X0_put : GoodIn wsL_put (wsV RL 17 RX0 yX0_put wsX0_put) := goodIn_app (goodIn_of _ (by decide +kernel)) ggL_put_X0_put
set_option maxRecDepth 20000 in
theorem ggL_cut_X0_cut : GoodIn wsL_cut wsX0_cut := goodIn_ca (goodIn_r _ [6, 7, 8, 9, 10, 11, 12, 13, 14, 15, 16] (by decide +kernel) (by decide +kernel)) (goodIn_sub (fun _ h => List.mem_cons_of_mem _ (List.mem_append_right _ h)) (by decide +kernel))
set_option maxRecDepth 20000 in
theorem gL_cut_X0_cut : GoodIn wsL_cut (wsV RL 21 RX0 yX0_cut wsX0_cut) := goodIn_app (goodIn_of _ (by decide +kernel)) ggL_cut_X0_cut
set_option maxRecDepth 20000 in
theorem ggL_byteAt_X0_byteAt : GoodIn wsL_byteAt wsX0_byteAt := goodIn_ca (goodIn_r _ [6, 7, 8, 9, 10, 11, 12, 5, 13, 14, 15, 16, 17, 18, 19, 20] (by decide +kernel) (by decide +kernel)) (goodIn_sub (fun _ h => List.mem_cons_of_mem _ (List.mem_append_right _ h)) (by decide +kernel))
set_option maxRecDepth 20000 in
theorem gL_byteAt_X0_byteAt : GoodIn wsL_byteAt (wsV RL 24 RX0 yX0_byteAt wsX0_byteAt) := goodIn_app (goodIn_of _ (by decide +kernel)) ggL_byteAt_X0_byteAt
set_option maxRecDepth 20000 in
theorem ggL_remaining_X0_remaining : GoodIn wsL_remaining wsX0_remaining := goodIn_ca (goodIn_r _ [6, 7, 8, 9, 10, 11, 12, 13, 14, 15, 16, 17] (by decide +kernel) (by decide +kernel)) (goodIn_sub (fun _ h => List.mem_cons_of_mem _ (List.mem_append_right _ h)) (by decide +kernel))
set_option maxRecDepth 20000 in
theorem gL_remaining_X0_remaining : GoodIn wsL_remaining (wsV RL 27 RX0 yX0_remaining wsX0_remaining) := goodIn_app (goodIn_of _ (by decide +kernel)) ggL_remaining_X0_remaining
set_option maxRecDepth 20000 in
theorem ggL_pack_X0_pack : GoodIn wsL_pack wsX0_pack := goodIn_ca (goodIn_ca (goodIn_r _ [7, 8, 9, 10, 11, 12, 13, 6, 14, 15, 16, 17, 18, 19, 20, 21, 22, 23, 24, 25, 26, 27, 28, 29, 30, 31, 32, 33, 34, 35, 36, 37, 38, 39, 40, 41, 42, 43, 44, 45, 46, 47, 48, 49, 50, 51, 52, 53, 54, 55, 56, 57, 58, 59, 60, 61, 62, 63, 64] (by decide +kernel) (by decide +kernel)) (goodIn_sub (fun _ h => List.mem_cons_of_mem _ (List.mem_append_left _ (List.mem_append_right _ h))) (by decide +kernel))) (goodIn_sub (fun _ h => List.mem_cons_of_mem _ (List.mem_append_right _ h)) (by decide +kernel))
set_option maxRecDepth 20000 in
theorem gL_pack_X0_pack : GoodIn wsL_pack (wsV RL 31 RX0 yX0_pack wsX0_pack) := goodIn_app (goodIn_of _ (by decide +kernel)) ggL_pack_X0_pack
set_option maxRecDepth 20000 in
theorem ggL_law_X0_init : GoodIn wsL_law wsX0_init := goodIn_r _ [10, 11, 12, 13, 14, 15, 16, 17, 18, 6, 19, 20, 371, 372, 373, 374, 375, 376] (by decide +kernel) (by decide +kernel)
set_option maxRecDepth 20000 in
theorem gL_law_X0_init : GoodIn wsL_law (wsX0_init) := ggL_law_X0_init
set_option maxRecDepth 20000 in
theorem ggL_law_X1_init : GoodIn wsL_law wsX1_init := goodIn_r _ [23, 24, 12, 13, 25, 26, 27, 6, 28, 377, 378, 379, 380, 381, 382, 383, 384, 385, 386, 387, 388, 389, 390, 391, 392, 393] (by decide +kernel) (by decide +kernel)
set_option maxRecDepth 20000 in
theorem gL_law_X1_init : GoodIn wsL_law (wsX1_init) := ggL_law_X1_init
set_option maxRecDepth 20000 in
theorem ggL_law_L_feed : GoodIn wsL_law wsL_feed := goodIn_ca (goodIn_ca (goodIn_r _ [32, 33, 34, 35, 36, 37, 2, 38, 39, 40, 41, 42, 16, 43, 44, 45, 46, 47, 48, 49, 50, 15, 371, 372, 373, 374, 375, 376] (by decide +kernel) (by decide +kernel)) (goodIn_sub (fun _ h => List.mem_append_left _ (List.mem_append_right _ h)) (by decide +kernel))) (goodIn_sub (fun _ h => List.mem_append_right _ h) (by decide +kernel))
set_option maxRecDepth 20000 in
theorem gL_law_L_feed : GoodIn wsL_law (va_wsS RL 39 yL_feed wsL_feed) := goodIn_app (goodIn_of _ (by decide +kernel)) ggL_law_L_feed
set_option maxRecDepth 20000 in
theorem ggL_law_X1_feed : GoodIn wsL_law wsX1_feed := goodIn_r _ [54, 55, 56, 26, 57, 58, 59, 5, 60, 377, 378, 379, 380, 381, 382, 383, 384, 385, 386, 387, 388, 389, 390, 391, 392, 393] (by decide +kernel) (by decide +kernel)
set_option maxRecDepth 20000 in
theorem gL_law_X1_feed : GoodIn wsL_law (wsV RL 44 RX1 yX1_feed wsX1_feed) := goodIn_app (goodIn_of _ (by decide +kernel)) ggL_law_X1_feed
set_option maxRecDepth 20000 in
theorem ggL_law_X1_thrown : GoodIn wsL_law wsX1_thrown := goodIn_r _ [64, 55, 377, 378, 379, 380, 381, 382, 383, 384, 385, 386, 387, 388, 389, 390, 391, 392, 393] (by decide +kernel) (by decide +kernel)
set_option maxRecDepth 20000 in
theorem gL_law_X1_thrown : GoodIn wsL_law (wsV RL 45 RX1 yX1_thrown wsX1_thrown) := goodIn_app (goodIn_of _ (by decide +kernel)) ggL_law_X1_thrown
set_option maxRecDepth 20000 in
theorem ggL_law_L_put : GoodIn wsL_law wsL_put := goodIn_ca (goodIn_ca (goodIn_r _ [67, 33, 34, 68, 69, 70, 2, 71, 39, 40, 41, 42, 16, 43, 44, 45, 46, 47, 48, 49, 50, 15, 371, 372, 373, 374, 375, 376] (by decide +kernel) (by decide +kernel)) (goodIn_sub (fun _ h => List.mem_append_left _ (List.mem_append_right _ h)) (by decide +kernel))) (goodIn_sub (fun _ h => List.mem_append_right _ h) (by decide +kernel))
set_option maxRecDepth 20000 in
theorem gL_law_L_put : GoodIn wsL_law (va_wsS RL 51 yL_put wsL_put) := goodIn_app (goodIn_of _ (by decide +kernel)) ggL_law_L_put
set_option maxRecDepth 20000 in
theorem ggL_law_X1_put : GoodIn wsL_law wsX1_put := goodIn_r _ [75, 55, 56, 57, 58, 59, 5, 60, 76, 77, 78, 79, 26, 80, 377, 378, 379, 380, 381, 382, 383, 384, 385, 386, 387, 388, 389, 390, 391, 392, 393] (by decide +kernel) (by decide +kernel)
set_option maxRecDepth 20000 in
theorem gL_law_X1_put : GoodIn wsL_law (wsV RL 54 RX1 yX1_put wsX1_put) := goodIn_app (goodIn_of _ (by decide +kernel)) ggL_law_X1_put
set_option maxRecDepth 20000 in
theorem ggL_law_L_cut : GoodIn wsL_law wsL_cut := goodIn_ca (goodIn_r _ [83, 33, 84, 85, 86, 2, 87, 39, 40, 16, 17, 371, 372, 373, 374, 375, 376] (by decide +kernel) (by decide +kernel)) (goodIn_sub (fun _ h => List.mem_append_left _ (List.mem_append_right _ h)) (by decide +kernel))
set_option maxRecDepth 20000 in
theorem gL_law_L_cut : GoodIn wsL_law (va_wsS RL 55 yL_cut wsL_cut) := goodIn_app (goodIn_of _ (by decide +kernel)) ggL_law_L_cut
set_option maxRecDepth 20000 in
theorem ggL_law_X1_cut : GoodIn wsL_law wsX1_cut := goodIn_r _ [91, 55, 56, 92, 57, 58, 59, 5, 60, 377, 378, 379, 380, 381, 382, 383, 384, 385, 386, 387, 388, 389, 390, 391, 392, 393] (by decide +kernel) (by decide +kernel)
set_option maxRecDepth 20000 in
theorem gL_law_X1_cut : GoodIn wsL_law (wsV RL 57 RX1 yX1_cut wsX1_cut) := goodIn_app (goodIn_of _ (by decide +kernel)) ggL_law_X1_cut
set_option maxRecDepth 20000 in
theorem ggL_law_L_byteAt : GoodIn wsL_law wsL_byteAt := goodIn_ca (goodIn_r _ [95, 33, 96, 97, 98, 2, 99, 39, 40, 16, 100, 101, 102, 103, 15, 371, 372, 373, 374, 375, 376] (by decide +kernel) (by decide +kernel)) (goodIn_sub (fun _ h => List.mem_append_left _ (List.mem_append_right _ h)) (by decide +kernel))
set_option maxRecDepth 20000 in
theorem gL_law_L_byteAt : GoodIn wsL_law (va_wsS RL 58 yL_byteAt wsL_byteAt) := goodIn_app (goodIn_of _ (by decide +kernel)) ggL_law_L_byteAt
set_option maxRecDepth 20000 in
theorem ggL_law_X1_byteAt : GoodIn wsL_law wsX1_byteAt := goodIn_r _ [107, 55, 56, 26, 57, 58, 59, 5, 60, 377, 378, 379, 380, 381, 382, 383, 384, 385, 386, 387, 388, 389, 390, 391, 392, 393] (by decide +kernel) (by decide +kernel)
set_option maxRecDepth 20000 in
theorem gL_law_X1_byteAt : GoodIn wsL_law (wsV RL 60 RX1 yX1_byteAt wsX1_byteAt) := goodIn_app (goodIn_of _ (by decide +kernel)) ggL_law_X1_byteAt
set_option maxRecDepth 20000 in
theorem ggL_law_X0_next : GoodIn wsL_law wsX0_next := goodIn_r _ [111, 17, 20, 112, 113, 114, 2, 115, 16, 116, 100, 101, 102, 103, 15, 117, 118, 119, 120, 121, 122, 123, 124, 125, 126, 127, 128, 129, 130, 131, 132, 133, 134, 135, 136, 137, 138, 139, 140, 141, 142, 143, 144, 145, 146, 147, 148, 149, 150, 151, 152, 153, 154, 155, 156, 157, 158, 159, 160, 161, 162, 163, 164, 19, 165, 166, 167, 168, 169, 170, 171, 172, 173, 174, 175, 176, 18, 177, 178, 179, 180, 181, 182, 183, 184, 371, 372, 373, 374, 375, 376] (by decide +kernel) (by decide +kernel)
set_option maxRecDepth 20000 in
theorem gL_law_X0_next : GoodIn wsL_law (wsV RL 61 RX0 yX0_next wsX0_next) := goodIn_app (goodIn_of _ (by decide +kernel)) ggL_law_X0_next
set_option maxRecDepth 20000 in
theorem ggL_law_X1_next : GoodIn wsL_law wsX1_next := goodIn_r _ [188, 55, 92, 189, 190, 191, 192, 28, 193, 194, 195, 196, 5, 197, 56, 26, 198, 199, 200, 201, 202, 203, 204, 205, 206, 207, 208, 209, 210, 211, 212, 213, 214, 215, 216, 217, 218, 27, 219, 220, 221, 222, 223, 224, 225, 226, 377, 378, 379, 380, 381, 382, 383, 384, 385, 386, 387, 388, 389, 390, 391, 392, 393] (by decide +kernel) (by decide +kernel)
set_option maxRecDepth 20000 in
theorem gL_law_X1_next : GoodIn wsL_law (wsV RL 64 RX1 yX1_next wsX1_next) := goodIn_app (goodIn_of _ (by decide +kernel)) ggL_law_X1_next
set_option maxRecDepth 20000 in
theorem ggL_law_X0_skip : GoodIn wsL_law wsX0_skip := goodIn_r _ [230, 17, 231, 232, 233, 2, 234, 112, 113, 114, 115, 16, 116, 100, 101, 102, 103, 15, 117, 118, 119, 120, 121, 122, 123, 124, 125, 126, 127, 128, 129, 130, 131, 132, 133, 134, 135, 136, 137, 138, 139, 140, 141, 142, 143, 144, 145, 146, 147, 148, 149, 150, 151, 152, 153, 154, 155, 156, 157, 158, 159, 160, 177, 178, 179, 180, 181, 182, 183, 184, 161, 162, 163, 164, 20, 19, 169, 170, 171, 172, 173, 174, 175, 176, 18, 371, 372, 373, 374, 375, 376] (by decide +kernel) (by decide +kernel)
set_option maxRecDepth 20000 in
theorem gL_law_X0_skip : GoodIn wsL_law (wsV RL 65 RX0 yX0_skip wsX0_skip) := goodIn_app (goodIn_of _ (by decide +kernel)) ggL_law_X0_skip
set_option maxRecDepth 20000 in
theorem ggL_law_X1_skip : GoodIn wsL_law wsX1_skip := goodIn_r _ [238, 55, 92, 192, 190, 28, 239, 240, 241, 5, 242, 191, 189, 194, 195, 196, 197, 56, 26, 193, 198, 199, 200, 201, 202, 203, 204, 205, 206, 207, 208, 209, 210, 211, 212, 213, 214, 215, 216, 217, 218, 27, 219, 220, 221, 222, 223, 224, 225, 226, 377, 378, 379, 380, 381, 382, 383, 384, 385, 386, 387, 388, 389, 390, 391, 392, 393] (by decide +kernel) (by decide +kernel)
set_option maxRecDepth 20000 in
theorem gL_law_X1_skip : GoodIn wsL_law (wsV RL 68 RX1 yX1_skip wsX1_skip) := goodIn_app (goodIn_of _ (by decide +kernel)) ggL_law_X1_skip
set_option maxRecDepth 20000 in
theorem ggL_law_X0_kind : GoodIn wsL_law wsX0_kind := goodIn_r _ [246, 18, 149, 150, 151, 2, 152, 100, 101, 102, 103, 15, 127, 128, 129, 130, 371, 372, 373, 374, 375, 376] (by decide +kernel) (by decide +kernel)
set_option maxRecDepth 20000 in
theorem gL_law_X0_kind : GoodIn wsL_law (wsV RL 69 RX0 yX0_kind wsX0_kind) := goodIn_app (goodIn_of _ (by decide +kernel)) ggL_law_X0_kind
set_option maxRecDepth 20000 in
theorem ggL_law_X1_kind : GoodIn wsL_law wsX1_kind := goodIn_r _ [250, 55, 27, 377, 378, 379, 380, 381, 382, 383, 384, 385, 386, 387, 388, 389, 390, 391, 392, 393] (by decide +kernel) (by decide +kernel)
set_option maxRecDepth 20000 in
theorem gL_law_X1_kind : GoodIn wsL_law (wsV RL 72 RX1 yX1_kind wsX1_kind) := goodIn_app (goodIn_of _ (by decide +kernel)) ggL_law_X1_kind
set_option maxRecDepth 20000 in
theorem ggL_law_X0_valueLow : GoodIn wsL_law wsX0_valueLow := goodIn_r _ [254, 18, 131, 132, 133, 2, 134, 100, 101, 102, 103, 15, 120, 121, 122, 123, 135, 136, 137, 127, 128, 129, 130, 138, 139, 140, 141, 142, 143, 144, 371, 372, 373, 374, 375, 376] (by decide +kernel) (by decide +kernel)
set_option maxRecDepth 20000 in
theorem gL_law_X0_valueLow : GoodIn wsL_law (wsV RL 73 RX0 yX0_valueLow wsX0_valueLow) := goodIn_app (goodIn_of _ (by decide +kernel)) ggL_law_X0_valueLow
set_option maxRecDepth 20000 in
theorem ggL_law_X1_valueLow : GoodIn wsL_law wsX1_valueLow := goodIn_r _ [258, 55, 219, 377, 378, 379, 380, 381, 382, 383, 384, 385, 386, 387, 388, 389, 390, 391, 392, 393] (by decide +kernel) (by decide +kernel)
set_option maxRecDepth 20000 in
theorem gL_law_X1_valueLow : GoodIn wsL_law (wsV RL 76 RX1 yX1_valueLow wsX1_valueLow) := goodIn_app (goodIn_of _ (by decide +kernel)) ggL_law_X1_valueLow
set_option maxRecDepth 20000 in
theorem ggL_law_X0_valueHigh : GoodIn wsL_law wsX0_valueHigh := goodIn_r _ [262, 18, 149, 150, 151, 2, 152, 100, 101, 102, 103, 15, 127, 128, 129, 130, 263, 264, 265, 266, 181, 182, 183, 184, 117, 118, 119, 120, 121, 122, 123, 124, 125, 126, 131, 132, 133, 134, 135, 136, 137, 138, 139, 140, 141, 142, 143, 144, 371, 372, 373, 374, 375, 376] (by decide +kernel) (by decide +kernel)
set_option maxRecDepth 20000 in
theorem gL_law_X0_valueHigh : GoodIn wsL_law (wsV RL 77 RX0 yX0_valueHigh wsX0_valueHigh) := goodIn_app (goodIn_of _ (by decide +kernel)) ggL_law_X0_valueHigh
set_option maxRecDepth 20000 in
theorem ggL_law_X1_valueHigh : GoodIn wsL_law wsX1_valueHigh := goodIn_r _ [270, 55, 220, 377, 378, 379, 380, 381, 382, 383, 384, 385, 386, 387, 388, 389, 390, 391, 392, 393] (by decide +kernel) (by decide +kernel)
set_option maxRecDepth 20000 in
theorem gL_law_X1_valueHigh : GoodIn wsL_law (wsV RL 80 RX1 yX1_valueHigh wsX1_valueHigh) := goodIn_app (goodIn_of _ (by decide +kernel)) ggL_law_X1_valueHigh
set_option maxRecDepth 20000 in
theorem ggL_law_X0_payload : GoodIn wsL_law wsX0_payload := goodIn_r _ [274, 18, 145, 146, 147, 2, 148, 149, 150, 151, 152, 100, 101, 102, 103, 15, 127, 128, 129, 130, 153, 154, 155, 131, 132, 133, 134, 120, 121, 122, 123, 135, 136, 137, 138, 139, 140, 141, 142, 143, 144, 181, 182, 183, 184, 117, 118, 119, 124, 125, 126, 371, 372, 373, 374, 375, 376] (by decide +kernel) (by decide +kernel)
set_option maxRecDepth 20000 in
theorem gL_law_X0_payload : GoodIn wsL_law (wsV RL 81 RX0 yX0_payload wsX0_payload) := goodIn_app (goodIn_of _ (by decide +kernel)) ggL_law_X0_payload
set_option maxRecDepth 20000 in
theorem ggL_law_X1_payload : GoodIn wsL_law wsX1_payload := goodIn_r _ [278, 55, 222, 26, 221, 377, 378, 379, 380, 381, 382, 383, 384, 385, 386, 387, 388, 389, 390, 391, 392, 393] (by decide +kernel) (by decide +kernel)
set_option maxRecDepth 20000 in
theorem gL_law_X1_payload : GoodIn wsL_law (wsV RL 84 RX1 yX1_payload wsX1_payload) := goodIn_app (goodIn_of _ (by decide +kernel)) ggL_law_X1_payload
set_option maxRecDepth 20000 in
theorem ggL_law_X0_level : GoodIn wsL_law wsX0_level := goodIn_r _ [282, 20, 371, 372, 373, 374, 375, 376] (by decide +kernel) (by decide +kernel)
set_option maxRecDepth 20000 in
theorem gL_law_X0_level : GoodIn wsL_law (wsV RL 85 RX0 yX0_level wsX0_level) := goodIn_app (goodIn_of _ (by decide +kernel)) ggL_law_X0_level
set_option maxRecDepth 20000 in
theorem ggL_law_X1_level : GoodIn wsL_law wsX1_level := goodIn_r _ [286, 55, 190, 377, 378, 379, 380, 381, 382, 383, 384, 385, 386, 387, 388, 389, 390, 391, 392, 393] (by decide +kernel) (by decide +kernel)
set_option maxRecDepth 20000 in
theorem gL_law_X1_level : GoodIn wsL_law (wsV RL 88 RX1 yX1_level wsX1_level) := goodIn_app (goodIn_of _ (by decide +kernel)) ggL_law_X1_level
set_option maxRecDepth 20000 in
theorem ggL_law_L_remaining : GoodIn wsL_law wsL_remaining := goodIn_ca (goodIn_r _ [289, 33, 290, 291, 292, 2, 293, 39, 40, 20, 294, 19, 371, 372, 373, 374, 375, 376] (by decide +kernel) (by decide +kernel)) (goodIn_sub (fun _ h => List.mem_append_left _ (List.mem_append_right _ h)) (by decide +kernel))
set_option maxRecDepth 20000 in
theorem gL_law_L_remaining : GoodIn wsL_law (va_wsS RL 89 yL_remaining wsL_remaining) := goodIn_app (goodIn_of _ (by decide +kernel)) ggL_law_L_remaining
set_option maxRecDepth 20000 in
theorem ggL_law_X1_remaining : GoodIn wsL_law wsX1_remaining := goodIn_r _ [298, 55, 190, 299, 28, 57, 58, 59, 5, 60, 377, 378, 379, 380, 381, 382, 383, 384, 385, 386, 387, 388, 389, 390, 391, 392, 393] (by decide +kernel) (by decide +kernel)
set_option maxRecDepth 20000 in
theorem gL_law_X1_remaining : GoodIn wsL_law (wsV RL 91 RX1 yX1_remaining wsX1_remaining) := goodIn_app (goodIn_of _ (by decide +kernel)) ggL_law_X1_remaining
set_option maxRecDepth 20000 in
theorem ggL_law_X0_consumed : GoodIn wsL_law wsX0_consumed := goodIn_r _ [303, 17, 371, 372, 373, 374, 375, 376] (by decide +kernel) (by decide +kernel)
set_option maxRecDepth 20000 in
theorem gL_law_X0_consumed : GoodIn wsL_law (wsV RL 92 RX0 yX0_consumed wsX0_consumed) := goodIn_app (goodIn_of _ (by decide +kernel)) ggL_law_X0_consumed
set_option maxRecDepth 20000 in
theorem ggL_law_X1_consumed : GoodIn wsL_law wsX1_consumed := goodIn_r _ [307, 55, 92, 377, 378, 379, 380, 381, 382, 383, 384, 385, 386, 387, 388, 389, 390, 391, 392, 393] (by decide +kernel) (by decide +kernel)
set_option maxRecDepth 20000 in
theorem gL_law_X1_consumed : GoodIn wsL_law (wsV RL 95 RX1 yX1_consumed wsX1_consumed) := goodIn_app (goodIn_of _ (by decide +kernel)) ggL_law_X1_consumed
set_option maxRecDepth 20000 in
theorem ggL_law_X0_whole : GoodIn wsL_law wsX0_whole := goodIn_r _ [311, 17, 231, 232, 233, 2, 234, 112, 113, 114, 115, 16, 116, 100, 101, 102, 103, 15, 117, 118, 119, 120, 121, 122, 123, 124, 125, 126, 127, 128, 129, 130, 131, 132, 133, 134, 135, 136, 137, 138, 139, 140, 141, 142, 143, 144, 145, 146, 147, 148, 149, 150, 151, 152, 153, 154, 155, 156, 157, 158, 159, 160, 177, 178, 179, 180, 181, 182, 183, 184, 371, 372, 373, 374, 375, 376] (by decide +kernel) (by decide +kernel)
set_option maxRecDepth 20000 in
theorem gL_law_X0_whole : GoodIn wsL_law (wsV RL 96 RX0 yX0_whole wsX0_whole) := goodIn_app (goodIn_of _ (by decide +kernel)) ggL_law_X0_whole
set_option maxRecDepth 20000 in
theorem ggL_law_X1_whole : GoodIn wsL_law wsX1_whole := goodIn_r _ [315, 55, 92, 239, 240, 241, 5, 242, 191, 192, 189, 194, 195, 196, 197, 56, 26, 193, 198, 199, 200, 201, 202, 203, 204, 205, 206, 207, 208, 209, 210, 211, 212, 213, 214, 377, 378, 379, 380, 381, 382, 383, 384, 385, 386, 387, 388, 389, 390, 391, 392, 393] (by decide +kernel) (by decide +kernel)
set_option maxRecDepth 20000 in
theorem gL_law_X1_whole : GoodIn wsL_law (wsV RL 99 RX1 yX1_whole wsX1_whole) := goodIn_app (goodIn_of _ (by decide +kernel)) ggL_law_X1_whole
set_option maxRecDepth 20000 in
theorem ggL_law_L_pack : GoodIn wsL_law wsL_pack := goodIn_ca (goodIn_ca (goodIn_r _ [318, 33, 34, 319, 320, 321, 2, 322, 39, 40, 41, 42, 323, 324, 325, 326, 327, 328, 329, 330, 331, 332, 333, 334, 335, 336, 337, 338, 339, 340, 341, 342, 343, 344, 345, 117, 118, 119, 120, 121, 122, 123, 124, 125, 126, 127, 128, 129, 130, 43, 44, 45, 46, 16, 47, 48, 49, 50, 15, 371, 372, 373, 374, 375, 376] (by decide +kernel) (by decide +kernel)) (goodIn_sub (fun _ h => List.mem_append_left _ (List.mem_append_right _ h)) (by decide +kernel))) (goodIn_sub (fun _ h => List.mem_append_right _ h) (by decide +kernel))
set_option maxRecDepth 20000 in
theorem gL_law_L_pack : GoodIn wsL_law (va_wsS RL 100 yL_pack wsL_pack) := goodIn_app (goodIn_of _ (by decide +kernel)) ggL_law_L_pack
set_option maxRecDepth 20000 in
theorem ggL_law_X1_pack : GoodIn wsL_law wsX1_pack := goodIn_r _ [349, 55, 350, 351, 352, 57, 58, 59, 5, 60, 353, 354, 355, 356, 357, 358, 359, 56, 26, 76, 77, 78, 79, 80, 360, 361, 362, 363, 364, 365, 366, 367, 368, 369, 370, 200, 377, 378, 379, 380, 381, 382, 383, 384, 385, 386, 387, 388, 389, 390, 391, 392, 393] (by decide +kernel) (by decide +kernel)
set_option maxRecDepth 20000 in
theorem gL_law_X1_pack : GoodIn wsL_law (wsV RL 103 RX1 yX1_pack wsX1_pack) := goodIn_app (goodIn_of _ (by decide +kernel)) ggL_law_X1_pack
abbrev vwCl : List vw_C := [(RX0, TX0, 6), (RX1, TX1, 17)]
end
section
theorem dX0_init_0 : decode cX0_init 0 = .ok (.aload_n 0, 1) := by decide +kernel
theorem dX0_init_1 : decode cX0_init 1 = .ok (.invokespecial 1, 3) := by decide +kernel
theorem dX0_init_4 : decode cX0_init 4 = .ok (.aload_n 0, 1) := by decide +kernel
theorem dX0_init_5 : decode cX0_init 5 = .ok (.sipush 4096, 3) := by decide +kernel
theorem dX0_init_8 : decode cX0_init 8 = .ok (.newarray .byte, 2) := by decide +kernel
theorem dX0_init_10 : decode cX0_init 10 = .ok (.putfield 9, 3) := by decide +kernel
theorem dX0_init_13 : decode cX0_init 13 = .ok (.aload_n 0, 1) := by decide +kernel
theorem dX0_init_14 : decode cX0_init 14 = .ok (.iconst 0, 1) := by decide +kernel
theorem dX0_init_15 : decode cX0_init 15 = .ok (.putfield 13, 3) := by decide +kernel
theorem dX0_init_18 : decode cX0_init 18 = .ok (.aload_n 0, 1) := by decide +kernel
theorem dX0_init_19 : decode cX0_init 19 = .ok (.iconst 0, 1) := by decide +kernel
theorem dX0_init_20 : decode cX0_init 20 = .ok (.putfield 17, 3) := by decide +kernel
theorem dX0_init_23 : decode cX0_init 23 = .ok (.aload_n 0, 1) := by decide +kernel
theorem dX0_init_24 : decode cX0_init 24 = .ok (.iconst (-1), 1) := by decide +kernel
theorem dX0_init_25 : decode cX0_init 25 = .ok (.putfield 20, 3) := by decide +kernel
theorem dX0_init_28 : decode cX0_init 28 = .ok (.aload_n 0, 1) := by decide +kernel
theorem dX0_init_29 : decode cX0_init 29 = .ok (.bipush 100, 2) := by decide +kernel
theorem dX0_init_31 : decode cX0_init 31 = .ok (.newarray .long, 2) := by decide +kernel
theorem dX0_init_33 : decode cX0_init 33 = .ok (.putfield 23, 3) := by decide +kernel
theorem dX0_init_36 : decode cX0_init 36 = .ok (.aload_n 0, 1) := by decide +kernel
theorem dX0_init_37 : decode cX0_init 37 = .ok (.iconst 0, 1) := by decide +kernel
theorem dX0_init_38 : decode cX0_init 38 = .ok (.putfield 27, 3) := by decide +kernel
theorem dX0_init_41 : decode cX0_init 41 = .ok (.return_, 1) := by decide +kernel
theorem dX0_feed_0 : decode cX0_feed 0 = .ok (.iload_n 1, 1) := by decide +kernel
theorem dX0_feed_1 : decode cX0_feed 1 = .ok (.ifCond .lt 10, 3) := by decide +kernel
theorem dX0_feed_4 : decode cX0_feed 4 = .ok (.iload_n 1, 1) := by decide +kernel
theorem dX0_feed_5 : decode cX0_feed 5 = .ok (.sipush 255, 3) := by decide +kernel
theorem dX0_feed_8 : decode cX0_feed 8 = .ok (.if_icmp .le 13, 3) := by decide +kernel
theorem dX0_feed_11 : decode cX0_feed 11 = .ok (.new 30, 3) := by decide +kernel
theorem dX0_feed_14 : decode cX0_feed 14 = .ok (.dup, 1) := by decide +kernel
theorem dX0_feed_15 : decode cX0_feed 15 = .ok (.ldc 32, 2) := by decide +kernel
theorem dX0_feed_17 : decode cX0_feed 17 = .ok (.invokespecial 34, 3) := by decide +kernel
theorem dX0_feed_20 : decode cX0_feed 20 = .ok (.athrow, 1) := by decide +kernel
theorem dX0_feed_21 : decode cX0_feed 21 = .ok (.aload_n 0, 1) := by decide +kernel
theorem dX0_feed_22 : decode cX0_feed 22 = .ok (.iconst 1, 1) := by decide +kernel
theorem dX0_feed_23 : decode cX0_feed 23 = .ok (.invokevirtual 37, 3) := by decide +kernel
theorem dX0_feed_26 : decode cX0_feed 26 = .ok (.ifCond .ne 13, 3) := by decide +kernel
theorem dX0_feed_29 : decode cX0_feed 29 = .ok (.new 41, 3) := by decide +kernel
theorem dX0_feed_32 : decode cX0_feed 32 = .ok (.dup, 1) := by decide +kernel
theorem dX0_feed_33 : decode cX0_feed 33 = .ok (.ldc 43, 2) := by decide +kernel
theorem dX0_feed_35 : decode cX0_feed 35 = .ok (.invokespecial 45, 3) := by decide +kernel
theorem dX0_feed_38 : decode cX0_feed 38 = .ok (.athrow, 1) := by decide +kernel
theorem dX0_feed_39 : decode cX0_feed 39 = .ok (.aload_n 0, 1) := by decide +kernel
theorem dX0_feed_40 : decode cX0_feed 40 = .ok (.iload_n 1, 1) := by decide +kernel
theorem dX0_feed_41 : decode cX0_feed 41 = .ok (.i2l, 1) := by decide +kernel
theorem dX0_feed_42 : decode cX0_feed 42 = .ok (.iconst 1, 1) := by decide +kernel
theorem dX0_feed_43 : decode cX0_feed 43 = .ok (.invokevirtual 46, 3) := by decide +kernel
theorem dX0_feed_46 : decode cX0_feed 46 = .ok (.aload_n 0, 1) := by decide +kernel
theorem dX0_feed_47 : decode cX0_feed 47 = .ok (.getfield 13, 3) := by decide +kernel
theorem dX0_feed_50 : decode cX0_feed 50 = .ok (.ireturn, 1) := by decide +kernel
theorem dX0_put_0 : decode cX0_put 0 = .ok (.iload_n 3, 1) := by decide +kernel
theorem dX0_put_1 : decode cX0_put 1 = .ok (.iconst 1, 1) := by decide +kernel
theorem dX0_put_2 : decode cX0_put 2 = .ok (.if_icmp .lt 9, 3) := by decide +kernel
theorem dX0_put_5 : decode cX0_put 5 = .ok (.iload_n 3, 1) := by decide +kernel
theorem dX0_put_6 : decode cX0_put 6 = .ok (.bipush 8, 2) := by decide +kernel
theorem dX0_put_8 : decode cX0_put 8 = .ok (.if_icmp .le 13, 3) := by decide +kernel
theorem dX0_put_11 : decode cX0_put 11 = .ok (.new 30, 3) := by decide +kernel
theorem dX0_put_14 : decode cX0_put 14 = .ok (.dup, 1) := by decide +kernel
theorem dX0_put_15 : decode cX0_put 15 = .ok (.ldc 50, 2) := by decide +kernel
theorem dX0_put_17 : decode cX0_put 17 = .ok (.invokespecial 34, 3) := by decide +kernel
theorem dX0_put_20 : decode cX0_put 20 = .ok (.athrow, 1) := by decide +kernel
theorem dX0_put_21 : decode cX0_put 21 = .ok (.aload_n 0, 1) := by decide +kernel
theorem dX0_put_22 : decode cX0_put 22 = .ok (.iload_n 3, 1) := by decide +kernel
theorem dX0_put_23 : decode cX0_put 23 = .ok (.invokevirtual 37, 3) := by decide +kernel
theorem dX0_put_26 : decode cX0_put 26 = .ok (.ifCond .ne 13, 3) := by decide +kernel
theorem dX0_put_29 : decode cX0_put 29 = .ok (.new 41, 3) := by decide +kernel
theorem dX0_put_32 : decode cX0_put 32 = .ok (.dup, 1) := by decide +kernel
theorem dX0_put_33 : decode cX0_put 33 = .ok (.ldc 52, 2) := by decide +kernel
theorem dX0_put_35 : decode cX0_put 35 = .ok (.invokespecial 45, 3) := by decide +kernel
theorem dX0_put_38 : decode cX0_put 38 = .ok (.athrow, 1) := by decide +kernel
theorem dX0_put_39 : decode cX0_put 39 = .ok (.aload_n 0, 1) := by decide +kernel
theorem dX0_put_40 : decode cX0_put 40 = .ok (.lload_n 1, 1) := by decide +kernel
theorem dX0_put_41 : decode cX0_put 41 = .ok (.iload_n 3, 1) := by decide +kernel
theorem dX0_put_42 : decode cX0_put 42 = .ok (.invokevirtual 46, 3) := by decide +kernel
theorem dX0_put_45 : decode cX0_put 45 = .ok (.aload_n 0, 1) := by decide +kernel
theorem dX0_put_46 : decode cX0_put 46 = .ok (.getfield 13, 3) := by decide +kernel
theorem dX0_put_49 : decode cX0_put 49 = .ok (.ireturn, 1) := by decide +kernel
theorem dX0_cut_0 : decode cX0_cut 0 = .ok (.iload_n 1, 1) := by decide +kernel
theorem dX0_cut_1 : decode cX0_cut 1 = .ok (.ifCond .lt 16, 3) := by decide +kernel
theorem dX0_cut_4 : decode cX0_cut 4 = .ok (.iload_n 1, 1) := by decide +kernel
theorem dX0_cut_5 : decode cX0_cut 5 = .ok (.aload_n 0, 1) := by decide +kernel
theorem dX0_cut_6 : decode cX0_cut 6 = .ok (.getfield 13, 3) := by decide +kernel
theorem dX0_cut_9 : decode cX0_cut 9 = .ok (.aload_n 0, 1) := by decide +kernel
theorem dX0_cut_10 : decode cX0_cut 10 = .ok (.getfield 17, 3) := by decide +kernel
theorem dX0_cut_13 : decode cX0_cut 13 = .ok (.isub, 1) := by decide +kernel
theorem dX0_cut_14 : decode cX0_cut 14 = .ok (.if_icmp .le 13, 3) := by decide +kernel
theorem dX0_cut_17 : decode cX0_cut 17 = .ok (.new 30, 3) := by decide +kernel
theorem dX0_cut_20 : decode cX0_cut 20 = .ok (.dup, 1) := by decide +kernel
theorem dX0_cut_21 : decode cX0_cut 21 = .ok (.ldc 54, 2) := by decide +kernel
theorem dX0_cut_23 : decode cX0_cut 23 = .ok (.invokespecial 34, 3) := by decide +kernel
theorem dX0_cut_26 : decode cX0_cut 26 = .ok (.athrow, 1) := by decide +kernel
theorem dX0_cut_27 : decode cX0_cut 27 = .ok (.aload_n 0, 1) := by decide +kernel
theorem dX0_cut_28 : decode cX0_cut 28 = .ok (.dup, 1) := by decide +kernel
theorem dX0_cut_29 : decode cX0_cut 29 = .ok (.getfield 13, 3) := by decide +kernel
theorem dX0_cut_32 : decode cX0_cut 32 = .ok (.iload_n 1, 1) := by decide +kernel
theorem dX0_cut_33 : decode cX0_cut 33 = .ok (.isub, 1) := by decide +kernel
theorem dX0_cut_34 : decode cX0_cut 34 = .ok (.putfield 13, 3) := by decide +kernel
theorem dX0_cut_37 : decode cX0_cut 37 = .ok (.aload_n 0, 1) := by decide +kernel
theorem dX0_cut_38 : decode cX0_cut 38 = .ok (.getfield 13, 3) := by decide +kernel
theorem dX0_cut_41 : decode cX0_cut 41 = .ok (.ireturn, 1) := by decide +kernel
theorem dX0_byteAt_0 : decode cX0_byteAt 0 = .ok (.iload_n 1, 1) := by decide +kernel
theorem dX0_byteAt_1 : decode cX0_byteAt 1 = .ok (.ifCond .lt 11, 3) := by decide +kernel
theorem dX0_byteAt_4 : decode cX0_byteAt 4 = .ok (.iload_n 1, 1) := by decide +kernel
theorem dX0_byteAt_5 : decode cX0_byteAt 5 = .ok (.aload_n 0, 1) := by decide +kernel
theorem dX0_byteAt_6 : decode cX0_byteAt 6 = .ok (.getfield 13, 3) := by decide +kernel
theorem dX0_byteAt_9 : decode cX0_byteAt 9 = .ok (.if_icmp .lt 13, 3) := by decide +kernel
theorem dX0_byteAt_12 : decode cX0_byteAt 12 = .ok (.new 30, 3) := by decide +kernel
theorem dX0_byteAt_15 : decode cX0_byteAt 15 = .ok (.dup, 1) := by decide +kernel
theorem dX0_byteAt_16 : decode cX0_byteAt 16 = .ok (.ldc 56, 2) := by decide +kernel
theorem dX0_byteAt_18 : decode cX0_byteAt 18 = .ok (.invokespecial 34, 3) := by decide +kernel
theorem dX0_byteAt_21 : decode cX0_byteAt 21 = .ok (.athrow, 1) := by decide +kernel
theorem dX0_byteAt_22 : decode cX0_byteAt 22 = .ok (.aload_n 0, 1) := by decide +kernel
theorem dX0_byteAt_23 : decode cX0_byteAt 23 = .ok (.iload_n 1, 1) := by decide +kernel
theorem dX0_byteAt_24 : decode cX0_byteAt 24 = .ok (.invokevirtual 58, 3) := by decide +kernel
theorem dX0_byteAt_27 : decode cX0_byteAt 27 = .ok (.ireturn, 1) := by decide +kernel
theorem dX0_next_0 : decode cX0_next 0 = .ok (.aload_n 0, 1) := by decide +kernel
theorem dX0_next_1 : decode cX0_next 1 = .ok (.aload_n 0, 1) := by decide +kernel
theorem dX0_next_2 : decode cX0_next 2 = .ok (.getfield 17, 3) := by decide +kernel
theorem dX0_next_5 : decode cX0_next 5 = .ok (.invokevirtual 62, 3) := by decide +kernel
theorem dX0_next_8 : decode cX0_next 8 = .ok (.istore_n 1, 1) := by decide +kernel
theorem dX0_next_9 : decode cX0_next 9 = .ok (.iload_n 1, 1) := by decide +kernel
theorem dX0_next_10 : decode cX0_next 10 = .ok (.ifCond .ge 5, 3) := by decide +kernel
theorem dX0_next_13 : decode cX0_next 13 = .ok (.iload_n 1, 1) := by decide +kernel
theorem dX0_next_14 : decode cX0_next 14 = .ok (.ireturn, 1) := by decide +kernel
theorem dX0_next_15 : decode cX0_next 15 = .ok (.aload_n 0, 1) := by decide +kernel
theorem dX0_next_16 : decode cX0_next 16 = .ok (.aload_n 0, 1) := by decide +kernel
theorem dX0_next_17 : decode cX0_next 17 = .ok (.getfield 17, 3) := by decide +kernel
theorem dX0_next_20 : decode cX0_next 20 = .ok (.invokevirtual 65, 3) := by decide +kernel
theorem dX0_next_23 : decode cX0_next 23 = .ok (.lstore_n 2, 1) := by decide +kernel
theorem dX0_next_24 : decode cX0_next 24 = .ok (.lload_n 2, 1) := by decide +kernel
theorem dX0_next_25 : decode cX0_next 25 = .ok (.lconst 0, 1) := by decide +kernel
theorem dX0_next_26 : decode cX0_next 26 = .ok (.lcmp, 1) := by decide +kernel
theorem dX0_next_27 : decode cX0_next 27 = .ok (.ifCond .le 15, 3) := by decide +kernel
theorem dX0_next_30 : decode cX0_next 30 = .ok (.aload_n 0, 1) := by decide +kernel
theorem dX0_next_31 : decode cX0_next 31 = .ok (.getfield 27, 3) := by decide +kernel
theorem dX0_next_34 : decode cX0_next 34 = .ok (.bipush 100, 2) := by decide +kernel
theorem dX0_next_36 : decode cX0_next 36 = .ok (.if_icmp .ne 6, 3) := by decide +kernel
theorem dX0_next_39 : decode cX0_next 39 = .ok (.bipush (-5), 2) := by decide +kernel
theorem dX0_next_41 : decode cX0_next 41 = .ok (.ireturn, 1) := by decide +kernel
theorem dX0_next_42 : decode cX0_next 42 = .ok (.aload_n 0, 1) := by decide +kernel
theorem dX0_next_43 : decode cX0_next 43 = .ok (.invokevirtual 69, 3) := by decide +kernel
theorem dX0_next_46 : decode cX0_next 46 = .ok (.aload_n 0, 1) := by decide +kernel
theorem dX0_next_47 : decode cX0_next 47 = .ok (.lload_n 2, 1) := by decide +kernel
theorem dX0_next_48 : decode cX0_next 48 = .ok (.invokevirtual 72, 3) := by decide +kernel
theorem dX0_next_51 : decode cX0_next 51 = .ok (.aload_n 0, 1) := by decide +kernel
theorem dX0_next_52 : decode cX0_next 52 = .ok (.invokevirtual 76, 3) := by decide +kernel
theorem dX0_next_55 : decode cX0_next 55 = .ok (.aload_n 0, 1) := by decide +kernel
theorem dX0_next_56 : decode cX0_next 56 = .ok (.aload_n 0, 1) := by decide +kernel
theorem dX0_next_57 : decode cX0_next 57 = .ok (.getfield 17, 3) := by decide +kernel
theorem dX0_next_60 : decode cX0_next 60 = .ok (.invokevirtual 79, 3) := by decide +kernel
theorem dX0_next_63 : decode cX0_next 63 = .ok (.iload_n 1, 1) := by decide +kernel
theorem dX0_next_64 : decode cX0_next 64 = .ok (.ireturn, 1) := by decide +kernel
theorem dX0_skip_0 : decode cX0_skip 0 = .ok (.aload_n 0, 1) := by decide +kernel
theorem dX0_skip_1 : decode cX0_skip 1 = .ok (.aload_n 0, 1) := by decide +kernel
theorem dX0_skip_2 : decode cX0_skip 2 = .ok (.getfield 17, 3) := by decide +kernel
theorem dX0_skip_5 : decode cX0_skip 5 = .ok (.invokevirtual 83, 3) := by decide +kernel
theorem dX0_skip_8 : decode cX0_skip 8 = .ok (.istore_n 1, 1) := by decide +kernel
theorem dX0_skip_9 : decode cX0_skip 9 = .ok (.iload_n 1, 1) := by decide +kernel
theorem dX0_skip_10 : decode cX0_skip 10 = .ok (.ifCond .ge 5, 3) := by decide +kernel
theorem dX0_skip_13 : decode cX0_skip 13 = .ok (.iload_n 1, 1) := by decide +kernel
theorem dX0_skip_14 : decode cX0_skip 14 = .ok (.ireturn, 1) := by decide +kernel
theorem dX0_skip_15 : decode cX0_skip 15 = .ok (.aload_n 0, 1) := by decide +kernel
theorem dX0_skip_16 : decode cX0_skip 16 = .ok (.getfield 17, 3) := by decide +kernel
theorem dX0_skip_19 : decode cX0_skip 19 = .ok (.istore_n 2, 1) := by decide +kernel
theorem dX0_skip_20 : decode cX0_skip 20 = .ok (.aload_n 0, 1) := by decide +kernel
theorem dX0_skip_21 : decode cX0_skip 21 = .ok (.invokevirtual 69, 3) := by decide +kernel
theorem dX0_skip_24 : decode cX0_skip 24 = .ok (.aload_n 0, 1) := by decide +kernel
theorem dX0_skip_25 : decode cX0_skip 25 = .ok (.invokevirtual 76, 3) := by decide +kernel
theorem dX0_skip_28 : decode cX0_skip 28 = .ok (.aload_n 0, 1) := by decide +kernel
theorem dX0_skip_29 : decode cX0_skip 29 = .ok (.iload_n 1, 1) := by decide +kernel
theorem dX0_skip_30 : decode cX0_skip 30 = .ok (.invokevirtual 79, 3) := by decide +kernel
theorem dX0_skip_33 : decode cX0_skip 33 = .ok (.aload_n 0, 1) := by decide +kernel
theorem dX0_skip_34 : decode cX0_skip 34 = .ok (.getfield 17, 3) := by decide +kernel
theorem dX0_skip_37 : decode cX0_skip 37 = .ok (.iload_n 2, 1) := by decide +kernel
theorem dX0_skip_38 : decode cX0_skip 38 = .ok (.isub, 1) := by decide +kernel
theorem dX0_skip_39 : decode cX0_skip 39 = .ok (.ireturn, 1) := by decide +kernel
theorem dX0_kind_0 : decode cX0_kind 0 = .ok (.aload_n 0, 1) := by decide +kernel
theorem dX0_kind_1 : decode cX0_kind 1 = .ok (.getfield 20, 3) := by decide +kernel
theorem dX0_kind_4 : decode cX0_kind 4 = .ok (.ifCond .ge 7, 3) := by decide +kernel
theorem dX0_kind_7 : decode cX0_kind 7 = .ok (.iconst (-1), 1) := by decide +kernel
theorem dX0_kind_8 : decode cX0_kind 8 = .ok (.goto 11, 3) := by decide +kernel
theorem dX0_kind_11 : decode cX0_kind 11 = .ok (.aload_n 0, 1) := by decide +kernel
theorem dX0_kind_12 : decode cX0_kind 12 = .ok (.aload_n 0, 1) := by decide +kernel
theorem dX0_kind_13 : decode cX0_kind 13 = .ok (.getfield 20, 3) := by decide +kernel
theorem dX0_kind_16 : decode cX0_kind 16 = .ok (.invokevirtual 86, 3) := by decide +kernel
theorem dX0_kind_19 : decode cX0_kind 19 = .ok (.ireturn, 1) := by decide +kernel
theorem dX0_valueLow_0 : decode cX0_valueLow 0 = .ok (.aload_n 0, 1) := by decide +kernel
theorem dX0_valueLow_1 : decode cX0_valueLow 1 = .ok (.getfield 20, 3) := by decide +kernel
theorem dX0_valueLow_4 : decode cX0_valueLow 4 = .ok (.ifCond .ge 7, 3) := by decide +kernel
theorem dX0_valueLow_7 : decode cX0_valueLow 7 = .ok (.iconst 0, 1) := by decide +kernel
theorem dX0_valueLow_8 : decode cX0_valueLow 8 = .ok (.goto 12, 3) := by decide +kernel
theorem dX0_valueLow_11 : decode cX0_valueLow 11 = .ok (.aload_n 0, 1) := by decide +kernel
theorem dX0_valueLow_12 : decode cX0_valueLow 12 = .ok (.aload_n 0, 1) := by decide +kernel
theorem dX0_valueLow_13 : decode cX0_valueLow 13 = .ok (.getfield 20, 3) := by decide +kernel
theorem dX0_valueLow_16 : decode cX0_valueLow 16 = .ok (.invokevirtual 89, 3) := by decide +kernel
theorem dX0_valueLow_19 : decode cX0_valueLow 19 = .ok (.l2i, 1) := by decide +kernel
theorem dX0_valueLow_20 : decode cX0_valueLow 20 = .ok (.ireturn, 1) := by decide +kernel
theorem dX0_valueHigh_0 : decode cX0_valueHigh 0 = .ok (.aload_n 0, 1) := by decide +kernel
theorem dX0_valueHigh_1 : decode cX0_valueHigh 1 = .ok (.getfield 20, 3) := by decide +kernel
theorem dX0_valueHigh_4 : decode cX0_valueHigh 4 = .ok (.ifCond .ge 5, 3) := by decide +kernel
theorem dX0_valueHigh_7 : decode cX0_valueHigh 7 = .ok (.iconst 0, 1) := by decide +kernel
theorem dX0_valueHigh_8 : decode cX0_valueHigh 8 = .ok (.ireturn, 1) := by decide +kernel
theorem dX0_valueHigh_9 : decode cX0_valueHigh 9 = .ok (.aload_n 0, 1) := by decide +kernel
theorem dX0_valueHigh_10 : decode cX0_valueHigh 10 = .ok (.aload_n 0, 1) := by decide +kernel
theorem dX0_valueHigh_11 : decode cX0_valueHigh 11 = .ok (.getfield 20, 3) := by decide +kernel
theorem dX0_valueHigh_14 : decode cX0_valueHigh 14 = .ok (.invokevirtual 86, 3) := by decide +kernel
theorem dX0_valueHigh_17 : decode cX0_valueHigh 17 = .ok (.bipush 12, 2) := by decide +kernel
theorem dX0_valueHigh_19 : decode cX0_valueHigh 19 = .ok (.if_icmp .ne 12, 3) := by decide +kernel
theorem dX0_valueHigh_22 : decode cX0_valueHigh 22 = .ok (.aload_n 0, 1) := by decide +kernel
theorem dX0_valueHigh_23 : decode cX0_valueHigh 23 = .ok (.aload_n 0, 1) := by decide +kernel
theorem dX0_valueHigh_24 : decode cX0_valueHigh 24 = .ok (.getfield 20, 3) := by decide +kernel
theorem dX0_valueHigh_27 : decode cX0_valueHigh 27 = .ok (.invokevirtual 92, 3) := by decide +kernel
theorem dX0_valueHigh_30 : decode cX0_valueHigh 30 = .ok (.ireturn, 1) := by decide +kernel
theorem dX0_valueHigh_31 : decode cX0_valueHigh 31 = .ok (.aload_n 0, 1) := by decide +kernel
theorem dX0_valueHigh_32 : decode cX0_valueHigh 32 = .ok (.aload_n 0, 1) := by decide +kernel
theorem dX0_valueHigh_33 : decode cX0_valueHigh 33 = .ok (.getfield 20, 3) := by decide +kernel
theorem dX0_valueHigh_36 : decode cX0_valueHigh 36 = .ok (.invokevirtual 89, 3) := by decide +kernel
theorem dX0_valueHigh_39 : decode cX0_valueHigh 39 = .ok (.bipush 32, 2) := by decide +kernel
theorem dX0_valueHigh_41 : decode cX0_valueHigh 41 = .ok (.lushr, 1) := by decide +kernel
theorem dX0_valueHigh_42 : decode cX0_valueHigh 42 = .ok (.l2i, 1) := by decide +kernel
theorem dX0_valueHigh_43 : decode cX0_valueHigh 43 = .ok (.ireturn, 1) := by decide +kernel
theorem dX0_payload_0 : decode cX0_payload 0 = .ok (.aload_n 0, 1) := by decide +kernel
theorem dX0_payload_1 : decode cX0_payload 1 = .ok (.getfield 20, 3) := by decide +kernel
theorem dX0_payload_4 : decode cX0_payload 4 = .ok (.ifCond .lt 19, 3) := by decide +kernel
theorem dX0_payload_7 : decode cX0_payload 7 = .ok (.iload_n 1, 1) := by decide +kernel
theorem dX0_payload_8 : decode cX0_payload 8 = .ok (.ifCond .lt 15, 3) := by decide +kernel
theorem dX0_payload_11 : decode cX0_payload 11 = .ok (.iload_n 1, 1) := by decide +kernel
theorem dX0_payload_12 : decode cX0_payload 12 = .ok (.aload_n 0, 1) := by decide +kernel
theorem dX0_payload_13 : decode cX0_payload 13 = .ok (.aload_n 0, 1) := by decide +kernel
theorem dX0_payload_14 : decode cX0_payload 14 = .ok (.getfield 20, 3) := by decide +kernel
theorem dX0_payload_17 : decode cX0_payload 17 = .ok (.invokevirtual 95, 3) := by decide +kernel
theorem dX0_payload_20 : decode cX0_payload 20 = .ok (.if_icmp .lt 5, 3) := by decide +kernel
theorem dX0_payload_23 : decode cX0_payload 23 = .ok (.iconst (-1), 1) := by decide +kernel
theorem dX0_payload_24 : decode cX0_payload 24 = .ok (.ireturn, 1) := by decide +kernel
theorem dX0_payload_25 : decode cX0_payload 25 = .ok (.aload_n 0, 1) := by decide +kernel
theorem dX0_payload_26 : decode cX0_payload 26 = .ok (.aload_n 0, 1) := by decide +kernel
theorem dX0_payload_27 : decode cX0_payload 27 = .ok (.getfield 20, 3) := by decide +kernel
theorem dX0_payload_30 : decode cX0_payload 30 = .ok (.aload_n 0, 1) := by decide +kernel
theorem dX0_payload_31 : decode cX0_payload 31 = .ok (.aload_n 0, 1) := by decide +kernel
theorem dX0_payload_32 : decode cX0_payload 32 = .ok (.getfield 20, 3) := by decide +kernel
theorem dX0_payload_35 : decode cX0_payload 35 = .ok (.invokevirtual 98, 3) := by decide +kernel
theorem dX0_payload_38 : decode cX0_payload 38 = .ok (.iadd, 1) := by decide +kernel
theorem dX0_payload_39 : decode cX0_payload 39 = .ok (.iload_n 1, 1) := by decide +kernel
theorem dX0_payload_40 : decode cX0_payload 40 = .ok (.iadd, 1) := by decide +kernel
theorem dX0_payload_41 : decode cX0_payload 41 = .ok (.invokevirtual 58, 3) := by decide +kernel
theorem dX0_payload_44 : decode cX0_payload 44 = .ok (.ireturn, 1) := by decide +kernel
theorem dX0_level_0 : decode cX0_level 0 = .ok (.aload_n 0, 1) := by decide +kernel
theorem dX0_level_1 : decode cX0_level 1 = .ok (.getfield 27, 3) := by decide +kernel
theorem dX0_level_4 : decode cX0_level 4 = .ok (.ireturn, 1) := by decide +kernel
theorem dX0_remaining_0 : decode cX0_remaining 0 = .ok (.iload_n 1, 1) := by decide +kernel
theorem dX0_remaining_1 : decode cX0_remaining 1 = .ok (.ifCond .ge 13, 3) := by decide +kernel
theorem dX0_remaining_4 : decode cX0_remaining 4 = .ok (.new 30, 3) := by decide +kernel
theorem dX0_remaining_7 : decode cX0_remaining 7 = .ok (.dup, 1) := by decide +kernel
theorem dX0_remaining_8 : decode cX0_remaining 8 = .ok (.ldc 101, 2) := by decide +kernel
theorem dX0_remaining_10 : decode cX0_remaining 10 = .ok (.invokespecial 34, 3) := by decide +kernel
theorem dX0_remaining_13 : decode cX0_remaining 13 = .ok (.athrow, 1) := by decide +kernel
theorem dX0_remaining_14 : decode cX0_remaining 14 = .ok (.iload_n 1, 1) := by decide +kernel
theorem dX0_remaining_15 : decode cX0_remaining 15 = .ok (.aload_n 0, 1) := by decide +kernel
theorem dX0_remaining_16 : decode cX0_remaining 16 = .ok (.getfield 27, 3) := by decide +kernel
theorem dX0_remaining_19 : decode cX0_remaining 19 = .ok (.if_icmp .lt 9, 3) := by decide +kernel
theorem dX0_remaining_22 : decode cX0_remaining 22 = .ok (.ldc2_w 103, 3) := by decide +kernel
theorem dX0_remaining_25 : decode cX0_remaining 25 = .ok (.goto 16, 3) := by decide +kernel
theorem dX0_remaining_28 : decode cX0_remaining 28 = .ok (.aload_n 0, 1) := by decide +kernel
theorem dX0_remaining_29 : decode cX0_remaining 29 = .ok (.getfield 23, 3) := by decide +kernel
theorem dX0_remaining_32 : decode cX0_remaining 32 = .ok (.aload_n 0, 1) := by decide +kernel
theorem dX0_remaining_33 : decode cX0_remaining 33 = .ok (.getfield 27, 3) := by decide +kernel
theorem dX0_remaining_36 : decode cX0_remaining 36 = .ok (.iconst 1, 1) := by decide +kernel
theorem dX0_remaining_37 : decode cX0_remaining 37 = .ok (.isub, 1) := by decide +kernel
theorem dX0_remaining_38 : decode cX0_remaining 38 = .ok (.iload_n 1, 1) := by decide +kernel
theorem dX0_remaining_39 : decode cX0_remaining 39 = .ok (.isub, 1) := by decide +kernel
theorem dX0_remaining_40 : decode cX0_remaining 40 = .ok (.laload, 1) := by decide +kernel
theorem dX0_remaining_41 : decode cX0_remaining 41 = .ok (.lreturn, 1) := by decide +kernel
theorem dX0_consumed_0 : decode cX0_consumed 0 = .ok (.aload_n 0, 1) := by decide +kernel
theorem dX0_consumed_1 : decode cX0_consumed 1 = .ok (.getfield 17, 3) := by decide +kernel
theorem dX0_consumed_4 : decode cX0_consumed 4 = .ok (.ireturn, 1) := by decide +kernel
theorem dX0_whole_0 : decode cX0_whole 0 = .ok (.aload_n 0, 1) := by decide +kernel
theorem dX0_whole_1 : decode cX0_whole 1 = .ok (.getfield 17, 3) := by decide +kernel
theorem dX0_whole_4 : decode cX0_whole 4 = .ok (.istore_n 1, 1) := by decide +kernel
theorem dX0_whole_5 : decode cX0_whole 5 = .ok (.iconst 0, 1) := by decide +kernel
theorem dX0_whole_6 : decode cX0_whole 6 = .ok (.istore_n 2, 1) := by decide +kernel
theorem dX0_whole_7 : decode cX0_whole 7 = .ok (.iload_n 2, 1) := by decide +kernel
theorem dX0_whole_8 : decode cX0_whole 8 = .ok (.sipush 4096, 3) := by decide +kernel
theorem dX0_whole_11 : decode cX0_whole 11 = .ok (.if_icmp .ge 27, 3) := by decide +kernel
theorem dX0_whole_14 : decode cX0_whole 14 = .ok (.aload_n 0, 1) := by decide +kernel
theorem dX0_whole_15 : decode cX0_whole 15 = .ok (.iload_n 1, 1) := by decide +kernel
theorem dX0_whole_16 : decode cX0_whole 16 = .ok (.invokevirtual 83, 3) := by decide +kernel
theorem dX0_whole_19 : decode cX0_whole 19 = .ok (.istore_n 3, 1) := by decide +kernel
theorem dX0_whole_20 : decode cX0_whole 20 = .ok (.iload_n 3, 1) := by decide +kernel
theorem dX0_whole_21 : decode cX0_whole 21 = .ok (.ifCond .ge 5, 3) := by decide +kernel
theorem dX0_whole_24 : decode cX0_whole 24 = .ok (.iload_n 2, 1) := by decide +kernel
theorem dX0_whole_25 : decode cX0_whole 25 = .ok (.ireturn, 1) := by decide +kernel
theorem dX0_whole_26 : decode cX0_whole 26 = .ok (.aload_n 0, 1) := by decide +kernel
theorem dX0_whole_27 : decode cX0_whole 27 = .ok (.iload_n 3, 1) := by decide +kernel
theorem dX0_whole_28 : decode cX0_whole 28 = .ok (.invokevirtual 105, 3) := by decide +kernel
theorem dX0_whole_31 : decode cX0_whole 31 = .ok (.istore_n 1, 1) := by decide +kernel
theorem dX0_whole_32 : decode cX0_whole 32 = .ok (.iinc 2 1, 3) := by decide +kernel
theorem dX0_whole_35 : decode cX0_whole 35 = .ok (.goto (-28), 3) := by decide +kernel
theorem dX0_whole_38 : decode cX0_whole 38 = .ok (.sipush 4096, 3) := by decide +kernel
theorem dX0_whole_41 : decode cX0_whole 41 = .ok (.ireturn, 1) := by decide +kernel
theorem dX0_pack_0 : decode cX0_pack 0 = .ok (.iload_n 1, 1) := by decide +kernel
theorem dX0_pack_1 : decode cX0_pack 1 = .ok (.iconst 1, 1) := by decide +kernel
theorem dX0_pack_2 : decode cX0_pack 2 = .ok (.if_icmp .lt 9, 3) := by decide +kernel
theorem dX0_pack_5 : decode cX0_pack 5 = .ok (.iload_n 1, 1) := by decide +kernel
theorem dX0_pack_6 : decode cX0_pack 6 = .ok (.bipush 12, 2) := by decide +kernel
theorem dX0_pack_8 : decode cX0_pack 8 = .ok (.if_icmp .le 13, 3) := by decide +kernel
theorem dX0_pack_11 : decode cX0_pack 11 = .ok (.new 30, 3) := by decide +kernel
theorem dX0_pack_14 : decode cX0_pack 14 = .ok (.dup, 1) := by decide +kernel
theorem dX0_pack_15 : decode cX0_pack 15 = .ok (.ldc 108, 2) := by decide +kernel
theorem dX0_pack_17 : decode cX0_pack 17 = .ok (.invokespecial 34, 3) := by decide +kernel
theorem dX0_pack_20 : decode cX0_pack 20 = .ok (.athrow, 1) := by decide +kernel
theorem dX0_pack_21 : decode cX0_pack 21 = .ok (.iload_n 1, 1) := by decide +kernel
theorem dX0_pack_22 : decode cX0_pack 22 = .ok (.bipush 8, 2) := by decide +kernel
theorem dX0_pack_24 : decode cX0_pack 24 = .ok (.if_icmp .lt 17, 3) := by decide +kernel
theorem dX0_pack_27 : decode cX0_pack 27 = .ok (.iload_n 2, 1) := by decide +kernel
theorem dX0_pack_28 : decode cX0_pack 28 = .ok (.ifCond .ge 13, 3) := by decide +kernel
theorem dX0_pack_31 : decode cX0_pack 31 = .ok (.new 30, 3) := by decide +kernel
theorem dX0_pack_34 : decode cX0_pack 34 = .ok (.dup, 1) := by decide +kernel
theorem dX0_pack_35 : decode cX0_pack 35 = .ok (.ldc 110, 2) := by decide +kernel
theorem dX0_pack_37 : decode cX0_pack 37 = .ok (.invokespecial 34, 3) := by decide +kernel
theorem dX0_pack_40 : decode cX0_pack 40 = .ok (.athrow, 1) := by decide +kernel
theorem dX0_pack_41 : decode cX0_pack 41 = .ok (.iload_n 1, 1) := by decide +kernel
theorem dX0_pack_42 : decode cX0_pack 42 = .ok (.bipush 12, 2) := by decide +kernel
theorem dX0_pack_44 : decode cX0_pack 44 = .ok (.if_icmp .ne 25, 3) := by decide +kernel
theorem dX0_pack_47 : decode cX0_pack 47 = .ok (.iload_n 3, 1) := by decide +kernel
theorem dX0_pack_48 : decode cX0_pack 48 = .ok (.bipush (-128), 2) := by decide +kernel
theorem dX0_pack_50 : decode cX0_pack 50 = .ok (.if_icmp .lt 9, 3) := by decide +kernel
theorem dX0_pack_53 : decode cX0_pack 53 = .ok (.iload_n 3, 1) := by decide +kernel
theorem dX0_pack_54 : decode cX0_pack 54 = .ok (.bipush 127, 2) := by decide +kernel
theorem dX0_pack_56 : decode cX0_pack 56 = .ok (.if_icmp .le 13, 3) := by decide +kernel
theorem dX0_pack_59 : decode cX0_pack 59 = .ok (.new 30, 3) := by decide +kernel
theorem dX0_pack_62 : decode cX0_pack 62 = .ok (.dup, 1) := by decide +kernel
theorem dX0_pack_63 : decode cX0_pack 63 = .ok (.ldc 112, 2) := by decide +kernel
theorem dX0_pack_65 : decode cX0_pack 65 = .ok (.invokespecial 34, 3) := by decide +kernel
theorem dX0_pack_68 : decode cX0_pack 68 = .ok (.athrow, 1) := by decide +kernel
theorem dX0_pack_69 : decode cX0_pack 69 = .ok (.iload_n 1, 1) := by decide +kernel
theorem dX0_pack_70 : decode cX0_pack 70 = .ok (.iload_n 2, 1) := by decide +kernel
theorem dX0_pack_71 : decode cX0_pack 71 = .ok (.iload_n 3, 1) := by decide +kernel
theorem dX0_pack_72 : decode cX0_pack 72 = .ok (.invokestatic 114, 3) := by decide +kernel
theorem dX0_pack_75 : decode cX0_pack 75 = .ok (.lstore 4, 2) := by decide +kernel
theorem dX0_pack_77 : decode cX0_pack 77 = .ok (.iload_n 1, 1) := by decide +kernel
theorem dX0_pack_78 : decode cX0_pack 78 = .ok (.lload 4, 2) := by decide +kernel
theorem dX0_pack_80 : decode cX0_pack 80 = .ok (.invokestatic 118, 3) := by decide +kernel
theorem dX0_pack_83 : decode cX0_pack 83 = .ok (.istore 6, 2) := by decide +kernel
theorem dX0_pack_85 : decode cX0_pack 85 = .ok (.iload 6, 2) := by decide +kernel
theorem dX0_pack_87 : decode cX0_pack 87 = .ok (.invokestatic 122, 3) := by decide +kernel
theorem dX0_pack_90 : decode cX0_pack 90 = .ok (.istore 7, 2) := by decide +kernel
theorem dX0_pack_92 : decode cX0_pack 92 = .ok (.aload_n 0, 1) := by decide +kernel
theorem dX0_pack_93 : decode cX0_pack 93 = .ok (.iload 7, 2) := by decide +kernel
theorem dX0_pack_95 : decode cX0_pack 95 = .ok (.invokevirtual 37, 3) := by decide +kernel
theorem dX0_pack_98 : decode cX0_pack 98 = .ok (.ifCond .ne 13, 3) := by decide +kernel
theorem dX0_pack_101 : decode cX0_pack 101 = .ok (.new 41, 3) := by decide +kernel
theorem dX0_pack_104 : decode cX0_pack 104 = .ok (.dup, 1) := by decide +kernel
theorem dX0_pack_105 : decode cX0_pack 105 = .ok (.ldc 125, 2) := by decide +kernel
theorem dX0_pack_107 : decode cX0_pack 107 = .ok (.invokespecial 45, 3) := by decide +kernel
theorem dX0_pack_110 : decode cX0_pack 110 = .ok (.athrow, 1) := by decide +kernel
theorem dX0_pack_111 : decode cX0_pack 111 = .ok (.aload_n 0, 1) := by decide +kernel
theorem dX0_pack_112 : decode cX0_pack 112 = .ok (.iload 6, 2) := by decide +kernel
theorem dX0_pack_114 : decode cX0_pack 114 = .ok (.i2l, 1) := by decide +kernel
theorem dX0_pack_115 : decode cX0_pack 115 = .ok (.iconst 1, 1) := by decide +kernel
theorem dX0_pack_116 : decode cX0_pack 116 = .ok (.invokevirtual 46, 3) := by decide +kernel
theorem dX0_pack_119 : decode cX0_pack 119 = .ok (.aload_n 0, 1) := by decide +kernel
theorem dX0_pack_120 : decode cX0_pack 120 = .ok (.lload 4, 2) := by decide +kernel
theorem dX0_pack_122 : decode cX0_pack 122 = .ok (.iload 6, 2) := by decide +kernel
theorem dX0_pack_124 : decode cX0_pack 124 = .ok (.invokestatic 127, 3) := by decide +kernel
theorem dX0_pack_127 : decode cX0_pack 127 = .ok (.invokevirtual 46, 3) := by decide +kernel
theorem dX0_pack_130 : decode cX0_pack 130 = .ok (.aload_n 0, 1) := by decide +kernel
theorem dX0_pack_131 : decode cX0_pack 131 = .ok (.iload_n 3, 1) := by decide +kernel
theorem dX0_pack_132 : decode cX0_pack 132 = .ok (.i2l, 1) := by decide +kernel
theorem dX0_pack_133 : decode cX0_pack 133 = .ok (.iload 6, 2) := by decide +kernel
theorem dX0_pack_135 : decode cX0_pack 135 = .ok (.invokestatic 130, 3) := by decide +kernel
theorem dX0_pack_138 : decode cX0_pack 138 = .ok (.invokevirtual 46, 3) := by decide +kernel
theorem dX0_pack_141 : decode cX0_pack 141 = .ok (.iload 7, 2) := by decide +kernel
theorem dX0_pack_143 : decode cX0_pack 143 = .ok (.ireturn, 1) := by decide +kernel
theorem dX0_hasRoom_0 : decode cX0_hasRoom 0 = .ok (.iload_n 1, 1) := by decide +kernel
theorem dX0_hasRoom_1 : decode cX0_hasRoom 1 = .ok (.sipush 4096, 3) := by decide +kernel
theorem dX0_hasRoom_4 : decode cX0_hasRoom 4 = .ok (.aload_n 0, 1) := by decide +kernel
theorem dX0_hasRoom_5 : decode cX0_hasRoom 5 = .ok (.getfield 13, 3) := by decide +kernel
theorem dX0_hasRoom_8 : decode cX0_hasRoom 8 = .ok (.isub, 1) := by decide +kernel
theorem dX0_hasRoom_9 : decode cX0_hasRoom 9 = .ok (.if_icmp .gt 7, 3) := by decide +kernel
theorem dX0_hasRoom_12 : decode cX0_hasRoom 12 = .ok (.iconst 1, 1) := by decide +kernel
theorem dX0_hasRoom_13 : decode cX0_hasRoom 13 = .ok (.goto 4, 3) := by decide +kernel
theorem dX0_hasRoom_16 : decode cX0_hasRoom 16 = .ok (.iconst 0, 1) := by decide +kernel
theorem dX0_hasRoom_17 : decode cX0_hasRoom 17 = .ok (.ireturn, 1) := by decide +kernel
theorem dX0_append_0 : decode cX0_append 0 = .ok (.iload_n 3, 1) := by decide +kernel
theorem dX0_append_1 : decode cX0_append 1 = .ok (.iconst 1, 1) := by decide +kernel
theorem dX0_append_2 : decode cX0_append 2 = .ok (.isub, 1) := by decide +kernel
theorem dX0_append_3 : decode cX0_append 3 = .ok (.istore 4, 2) := by decide +kernel
theorem dX0_append_5 : decode cX0_append 5 = .ok (.iload 4, 2) := by decide +kernel
theorem dX0_append_7 : decode cX0_append 7 = .ok (.ifCond .lt 37, 3) := by decide +kernel
theorem dX0_append_10 : decode cX0_append 10 = .ok (.aload_n 0, 1) := by decide +kernel
theorem dX0_append_11 : decode cX0_append 11 = .ok (.getfield 9, 3) := by decide +kernel
theorem dX0_append_14 : decode cX0_append 14 = .ok (.aload_n 0, 1) := by decide +kernel
theorem dX0_append_15 : decode cX0_append 15 = .ok (.getfield 13, 3) := by decide +kernel
theorem dX0_append_18 : decode cX0_append 18 = .ok (.lload_n 1, 1) := by decide +kernel
theorem dX0_append_19 : decode cX0_append 19 = .ok (.bipush 8, 2) := by decide +kernel
theorem dX0_append_21 : decode cX0_append 21 = .ok (.iload 4, 2) := by decide +kernel
theorem dX0_append_23 : decode cX0_append 23 = .ok (.imul, 1) := by decide +kernel
theorem dX0_append_24 : decode cX0_append 24 = .ok (.lushr, 1) := by decide +kernel
theorem dX0_append_25 : decode cX0_append 25 = .ok (.l2i, 1) := by decide +kernel
theorem dX0_append_26 : decode cX0_append 26 = .ok (.i2b, 1) := by decide +kernel
theorem dX0_append_27 : decode cX0_append 27 = .ok (.bastore, 1) := by decide +kernel
theorem dX0_append_28 : decode cX0_append 28 = .ok (.aload_n 0, 1) := by decide +kernel
theorem dX0_append_29 : decode cX0_append 29 = .ok (.dup, 1) := by decide +kernel
theorem dX0_append_30 : decode cX0_append 30 = .ok (.getfield 13, 3) := by decide +kernel
theorem dX0_append_33 : decode cX0_append 33 = .ok (.iconst 1, 1) := by decide +kernel
theorem dX0_append_34 : decode cX0_append 34 = .ok (.iadd, 1) := by decide +kernel
theorem dX0_append_35 : decode cX0_append 35 = .ok (.putfield 13, 3) := by decide +kernel
theorem dX0_append_38 : decode cX0_append 38 = .ok (.iinc 4 (-1), 3) := by decide +kernel
theorem dX0_append_41 : decode cX0_append 41 = .ok (.goto (-36), 3) := by decide +kernel
theorem dX0_append_44 : decode cX0_append 44 = .ok (.return_, 1) := by decide +kernel
theorem dX0_storedByte_0 : decode cX0_storedByte 0 = .ok (.aload_n 0, 1) := by decide +kernel
theorem dX0_storedByte_1 : decode cX0_storedByte 1 = .ok (.getfield 9, 3) := by decide +kernel
theorem dX0_storedByte_4 : decode cX0_storedByte 4 = .ok (.iload_n 1, 1) := by decide +kernel
theorem dX0_storedByte_5 : decode cX0_storedByte 5 = .ok (.baload, 1) := by decide +kernel
theorem dX0_storedByte_6 : decode cX0_storedByte 6 = .ok (.sipush 255, 3) := by decide +kernel
theorem dX0_storedByte_9 : decode cX0_storedByte 9 = .ok (.iand, 1) := by decide +kernel
theorem dX0_storedByte_10 : decode cX0_storedByte 10 = .ok (.ireturn, 1) := by decide +kernel
theorem dX0_readNumber_0 : decode cX0_readNumber 0 = .ok (.lconst 0, 1) := by decide +kernel
theorem dX0_readNumber_1 : decode cX0_readNumber 1 = .ok (.lstore_n 3, 1) := by decide +kernel
theorem dX0_readNumber_2 : decode cX0_readNumber 2 = .ok (.iconst 0, 1) := by decide +kernel
theorem dX0_readNumber_3 : decode cX0_readNumber 3 = .ok (.istore 5, 2) := by decide +kernel
theorem dX0_readNumber_5 : decode cX0_readNumber 5 = .ok (.iload 5, 2) := by decide +kernel
theorem dX0_readNumber_7 : decode cX0_readNumber 7 = .ok (.iload_n 2, 1) := by decide +kernel
theorem dX0_readNumber_8 : decode cX0_readNumber 8 = .ok (.if_icmp .ge 24, 3) := by decide +kernel
theorem dX0_readNumber_11 : decode cX0_readNumber 11 = .ok (.lload_n 3, 1) := by decide +kernel
theorem dX0_readNumber_12 : decode cX0_readNumber 12 = .ok (.bipush 8, 2) := by decide +kernel
theorem dX0_readNumber_14 : decode cX0_readNumber 14 = .ok (.lshl, 1) := by decide +kernel
theorem dX0_readNumber_15 : decode cX0_readNumber 15 = .ok (.aload_n 0, 1) := by decide +kernel
theorem dX0_readNumber_16 : decode cX0_readNumber 16 = .ok (.iload_n 1, 1) := by decide +kernel
theorem dX0_readNumber_17 : decode cX0_readNumber 17 = .ok (.iload 5, 2) := by decide +kernel
theorem dX0_readNumber_19 : decode cX0_readNumber 19 = .ok (.iadd, 1) := by decide +kernel
theorem dX0_readNumber_20 : decode cX0_readNumber 20 = .ok (.invokevirtual 58, 3) := by decide +kernel
theorem dX0_readNumber_23 : decode cX0_readNumber 23 = .ok (.i2l, 1) := by decide +kernel
theorem dX0_readNumber_24 : decode cX0_readNumber 24 = .ok (.lor, 1) := by decide +kernel
theorem dX0_readNumber_25 : decode cX0_readNumber 25 = .ok (.lstore_n 3, 1) := by decide +kernel
theorem dX0_readNumber_26 : decode cX0_readNumber 26 = .ok (.iinc 5 1, 3) := by decide +kernel
theorem dX0_readNumber_29 : decode cX0_readNumber 29 = .ok (.goto (-24), 3) := by decide +kernel
theorem dX0_readNumber_32 : decode cX0_readNumber 32 = .ok (.lload_n 3, 1) := by decide +kernel
theorem dX0_readNumber_33 : decode cX0_readNumber 33 = .ok (.lreturn, 1) := by decide +kernel
theorem dX0_kindOf_0 : decode cX0_kindOf 0 = .ok (.iload_n 0, 1) := by decide +kernel
theorem dX0_kindOf_1 : decode cX0_kindOf 1 = .ok (.sipush 128, 3) := by decide +kernel
theorem dX0_kindOf_4 : decode cX0_kindOf 4 = .ok (.if_icmp .ge 5, 3) := by decide +kernel
theorem dX0_kindOf_7 : decode cX0_kindOf 7 = .ok (.iconst 4, 1) := by decide +kernel
theorem dX0_kindOf_8 : decode cX0_kindOf 8 = .ok (.ireturn, 1) := by decide +kernel
theorem dX0_kindOf_9 : decode cX0_kindOf 9 = .ok (.iload_n 0, 1) := by decide +kernel
theorem dX0_kindOf_10 : decode cX0_kindOf 10 = .ok (.sipush 144, 3) := by decide +kernel
theorem dX0_kindOf_13 : decode cX0_kindOf 13 = .ok (.if_icmp .ge 6, 3) := by decide +kernel
theorem dX0_kindOf_16 : decode cX0_kindOf 16 = .ok (.bipush 11, 2) := by decide +kernel
theorem dX0_kindOf_18 : decode cX0_kindOf 18 = .ok (.ireturn, 1) := by decide +kernel
theorem dX0_kindOf_19 : decode cX0_kindOf 19 = .ok (.iload_n 0, 1) := by decide +kernel
theorem dX0_kindOf_20 : decode cX0_kindOf 20 = .ok (.sipush 160, 3) := by decide +kernel
theorem dX0_kindOf_23 : decode cX0_kindOf 23 = .ok (.if_icmp .ge 6, 3) := by decide +kernel
theorem dX0_kindOf_26 : decode cX0_kindOf 26 = .ok (.bipush 10, 2) := by decide +kernel
theorem dX0_kindOf_28 : decode cX0_kindOf 28 = .ok (.ireturn, 1) := by decide +kernel
theorem dX0_kindOf_29 : decode cX0_kindOf 29 = .ok (.iload_n 0, 1) := by decide +kernel
theorem dX0_kindOf_30 : decode cX0_kindOf 30 = .ok (.sipush 192, 3) := by decide +kernel
theorem dX0_kindOf_33 : decode cX0_kindOf 33 = .ok (.if_icmp .ge 6, 3) := by decide +kernel
theorem dX0_kindOf_36 : decode cX0_kindOf 36 = .ok (.bipush 8, 2) := by decide +kernel
theorem dX0_kindOf_38 : decode cX0_kindOf 38 = .ok (.ireturn, 1) := by decide +kernel
theorem dX0_kindOf_39 : decode cX0_kindOf 39 = .ok (.iload_n 0, 1) := by decide +kernel
theorem dX0_kindOf_40 : decode cX0_kindOf 40 = .ok (.sipush 223, 3) := by decide +kernel
theorem dX0_kindOf_43 : decode cX0_kindOf 43 = .ok (.if_icmp .le 7, 3) := by decide +kernel
theorem dX0_kindOf_46 : decode cX0_kindOf 46 = .ok (.iconst 5, 1) := by decide +kernel
theorem dX0_kindOf_47 : decode cX0_kindOf 47 = .ok (.goto 12, 3) := by decide +kernel
theorem dX0_kindOf_50 : decode cX0_kindOf 50 = .ok (.getstatic 133, 3) := by decide +kernel
theorem dX0_kindOf_53 : decode cX0_kindOf 53 = .ok (.iload_n 0, 1) := by decide +kernel
theorem dX0_kindOf_54 : decode cX0_kindOf 54 = .ok (.sipush 192, 3) := by decide +kernel
theorem dX0_kindOf_57 : decode cX0_kindOf 57 = .ok (.isub, 1) := by decide +kernel
theorem dX0_kindOf_58 : decode cX0_kindOf 58 = .ok (.iaload, 1) := by decide +kernel
theorem dX0_kindOf_59 : decode cX0_kindOf 59 = .ok (.ireturn, 1) := by decide +kernel
theorem dX0_width_0 : decode cX0_width 0 = .ok (.iload_n 0, 1) := by decide +kernel
theorem dX0_width_1 : decode cX0_width 1 = .ok (.sipush 192, 3) := by decide +kernel
theorem dX0_width_4 : decode cX0_width 4 = .ok (.if_icmp .lt 10, 3) := by decide +kernel
theorem dX0_width_7 : decode cX0_width 7 = .ok (.iload_n 0, 1) := by decide +kernel
theorem dX0_width_8 : decode cX0_width 8 = .ok (.sipush 223, 3) := by decide +kernel
theorem dX0_width_11 : decode cX0_width 11 = .ok (.if_icmp .le 7, 3) := by decide +kernel
theorem dX0_width_14 : decode cX0_width 14 = .ok (.iconst 0, 1) := by decide +kernel
theorem dX0_width_15 : decode cX0_width 15 = .ok (.goto 12, 3) := by decide +kernel
theorem dX0_width_18 : decode cX0_width 18 = .ok (.getstatic 137, 3) := by decide +kernel
theorem dX0_width_21 : decode cX0_width 21 = .ok (.iload_n 0, 1) := by decide +kernel
theorem dX0_width_22 : decode cX0_width 22 = .ok (.sipush 192, 3) := by decide +kernel
theorem dX0_width_25 : decode cX0_width 25 = .ok (.isub, 1) := by decide +kernel
theorem dX0_width_26 : decode cX0_width 26 = .ok (.iaload, 1) := by decide +kernel
theorem dX0_width_27 : decode cX0_width 27 = .ok (.ireturn, 1) := by decide +kernel
theorem dX0_typeWidth_0 : decode cX0_typeWidth 0 = .ok (.iload_n 0, 1) := by decide +kernel
theorem dX0_typeWidth_1 : decode cX0_typeWidth 1 = .ok (.invokestatic 140, 3) := by decide +kernel
theorem dX0_typeWidth_4 : decode cX0_typeWidth 4 = .ok (.bipush 12, 2) := by decide +kernel
theorem dX0_typeWidth_6 : decode cX0_typeWidth 6 = .ok (.if_icmp .ne 7, 3) := by decide +kernel
theorem dX0_typeWidth_9 : decode cX0_typeWidth 9 = .ok (.iconst 1, 1) := by decide +kernel
theorem dX0_typeWidth_10 : decode cX0_typeWidth 10 = .ok (.goto 4, 3) := by decide +kernel
theorem dX0_typeWidth_13 : decode cX0_typeWidth 13 = .ok (.iconst 0, 1) := by decide +kernel
theorem dX0_typeWidth_14 : decode cX0_typeWidth 14 = .ok (.ireturn, 1) := by decide +kernel
theorem dX0_headLength_0 : decode cX0_headLength 0 = .ok (.iconst 1, 1) := by decide +kernel
theorem dX0_headLength_1 : decode cX0_headLength 1 = .ok (.iload_n 0, 1) := by decide +kernel
theorem dX0_headLength_2 : decode cX0_headLength 2 = .ok (.invokestatic 127, 3) := by decide +kernel
theorem dX0_headLength_5 : decode cX0_headLength 5 = .ok (.iadd, 1) := by decide +kernel
theorem dX0_headLength_6 : decode cX0_headLength 6 = .ok (.iload_n 0, 1) := by decide +kernel
theorem dX0_headLength_7 : decode cX0_headLength 7 = .ok (.invokestatic 130, 3) := by decide +kernel
theorem dX0_headLength_10 : decode cX0_headLength 10 = .ok (.iadd, 1) := by decide +kernel
theorem dX0_headLength_11 : decode cX0_headLength 11 = .ok (.ireturn, 1) := by decide +kernel
theorem dX0_numberInside_0 : decode cX0_numberInside 0 = .ok (.iload_n 0, 1) := by decide +kernel
theorem dX0_numberInside_1 : decode cX0_numberInside 1 = .ok (.invokestatic 140, 3) := by decide +kernel
theorem dX0_numberInside_4 : decode cX0_numberInside 4 = .ok (.tableswitch 91 4 12 #[52, 55, 91, 91, 76, 91, 69, 62, 83], 52) := by decide +kernel
theorem dX0_numberInside_56 : decode cX0_numberInside 56 = .ok (.iload_n 0, 1) := by decide +kernel
theorem dX0_numberInside_57 : decode cX0_numberInside 57 = .ok (.i2l, 1) := by decide +kernel
theorem dX0_numberInside_58 : decode cX0_numberInside 58 = .ok (.lreturn, 1) := by decide +kernel
theorem dX0_numberInside_59 : decode cX0_numberInside 59 = .ok (.iload_n 0, 1) := by decide +kernel
theorem dX0_numberInside_60 : decode cX0_numberInside 60 = .ok (.sipush 256, 3) := by decide +kernel
theorem dX0_numberInside_63 : decode cX0_numberInside 63 = .ok (.isub, 1) := by decide +kernel
theorem dX0_numberInside_64 : decode cX0_numberInside 64 = .ok (.i2l, 1) := by decide +kernel
theorem dX0_numberInside_65 : decode cX0_numberInside 65 = .ok (.lreturn, 1) := by decide +kernel
theorem dX0_numberInside_66 : decode cX0_numberInside 66 = .ok (.iload_n 0, 1) := by decide +kernel
theorem dX0_numberInside_67 : decode cX0_numberInside 67 = .ok (.sipush 128, 3) := by decide +kernel
theorem dX0_numberInside_70 : decode cX0_numberInside 70 = .ok (.isub, 1) := by decide +kernel
theorem dX0_numberInside_71 : decode cX0_numberInside 71 = .ok (.i2l, 1) := by decide +kernel
theorem dX0_numberInside_72 : decode cX0_numberInside 72 = .ok (.lreturn, 1) := by decide +kernel
theorem dX0_numberInside_73 : decode cX0_numberInside 73 = .ok (.iload_n 0, 1) := by decide +kernel
theorem dX0_numberInside_74 : decode cX0_numberInside 74 = .ok (.sipush 144, 3) := by decide +kernel
theorem dX0_numberInside_77 : decode cX0_numberInside 77 = .ok (.isub, 1) := by decide +kernel
theorem dX0_numberInside_78 : decode cX0_numberInside 78 = .ok (.i2l, 1) := by decide +kernel
theorem dX0_numberInside_79 : decode cX0_numberInside 79 = .ok (.lreturn, 1) := by decide +kernel
theorem dX0_numberInside_80 : decode cX0_numberInside 80 = .ok (.iload_n 0, 1) := by decide +kernel
theorem dX0_numberInside_81 : decode cX0_numberInside 81 = .ok (.sipush 160, 3) := by decide +kernel
theorem dX0_numberInside_84 : decode cX0_numberInside 84 = .ok (.isub, 1) := by decide +kernel
theorem dX0_numberInside_85 : decode cX0_numberInside 85 = .ok (.i2l, 1) := by decide +kernel
theorem dX0_numberInside_86 : decode cX0_numberInside 86 = .ok (.lreturn, 1) := by decide +kernel
theorem dX0_numberInside_87 : decode cX0_numberInside 87 = .ok (.lconst 1, 1) := by decide +kernel
theorem dX0_numberInside_88 : decode cX0_numberInside 88 = .ok (.iload_n 0, 1) := by decide +kernel
theorem dX0_numberInside_89 : decode cX0_numberInside 89 = .ok (.sipush 212, 3) := by decide +kernel
theorem dX0_numberInside_92 : decode cX0_numberInside 92 = .ok (.isub, 1) := by decide +kernel
theorem dX0_numberInside_93 : decode cX0_numberInside 93 = .ok (.lshl, 1) := by decide +kernel
theorem dX0_numberInside_94 : decode cX0_numberInside 94 = .ok (.lreturn, 1) := by decide +kernel
theorem dX0_numberInside_95 : decode cX0_numberInside 95 = .ok (.lconst 0, 1) := by decide +kernel
theorem dX0_numberInside_96 : decode cX0_numberInside 96 = .ok (.lreturn, 1) := by decide +kernel
theorem dX0_kindAt_0 : decode cX0_kindAt 0 = .ok (.aload_n 0, 1) := by decide +kernel
theorem dX0_kindAt_1 : decode cX0_kindAt 1 = .ok (.iload_n 1, 1) := by decide +kernel
theorem dX0_kindAt_2 : decode cX0_kindAt 2 = .ok (.invokevirtual 58, 3) := by decide +kernel
theorem dX0_kindAt_5 : decode cX0_kindAt 5 = .ok (.invokestatic 140, 3) := by decide +kernel
theorem dX0_kindAt_8 : decode cX0_kindAt 8 = .ok (.ireturn, 1) := by decide +kernel
theorem dX0_headLengthAt_0 : decode cX0_headLengthAt 0 = .ok (.aload_n 0, 1) := by decide +kernel
theorem dX0_headLengthAt_1 : decode cX0_headLengthAt 1 = .ok (.iload_n 1, 1) := by decide +kernel
theorem dX0_headLengthAt_2 : decode cX0_headLengthAt 2 = .ok (.invokevirtual 58, 3) := by decide +kernel
theorem dX0_headLengthAt_5 : decode cX0_headLengthAt 5 = .ok (.invokestatic 122, 3) := by decide +kernel
theorem dX0_headLengthAt_8 : decode cX0_headLengthAt 8 = .ok (.ireturn, 1) := by decide +kernel
theorem dX0_numberAt_0 : decode cX0_numberAt 0 = .ok (.aload_n 0, 1) := by decide +kernel
theorem dX0_numberAt_1 : decode cX0_numberAt 1 = .ok (.iload_n 1, 1) := by decide +kernel
theorem dX0_numberAt_2 : decode cX0_numberAt 2 = .ok (.invokevirtual 58, 3) := by decide +kernel
theorem dX0_numberAt_5 : decode cX0_numberAt 5 = .ok (.istore_n 2, 1) := by decide +kernel
theorem dX0_numberAt_6 : decode cX0_numberAt 6 = .ok (.iload_n 2, 1) := by decide +kernel
theorem dX0_numberAt_7 : decode cX0_numberAt 7 = .ok (.invokestatic 127, 3) := by decide +kernel
theorem dX0_numberAt_10 : decode cX0_numberAt 10 = .ok (.istore_n 3, 1) := by decide +kernel
theorem dX0_numberAt_11 : decode cX0_numberAt 11 = .ok (.iload_n 3, 1) := by decide +kernel
theorem dX0_numberAt_12 : decode cX0_numberAt 12 = .ok (.ifCond .ne 8, 3) := by decide +kernel
theorem dX0_numberAt_15 : decode cX0_numberAt 15 = .ok (.iload_n 2, 1) := by decide +kernel
theorem dX0_numberAt_16 : decode cX0_numberAt 16 = .ok (.invokestatic 143, 3) := by decide +kernel
theorem dX0_numberAt_19 : decode cX0_numberAt 19 = .ok (.lreturn, 1) := by decide +kernel
theorem dX0_numberAt_20 : decode cX0_numberAt 20 = .ok (.aload_n 0, 1) := by decide +kernel
theorem dX0_numberAt_21 : decode cX0_numberAt 21 = .ok (.iload_n 1, 1) := by decide +kernel
theorem dX0_numberAt_22 : decode cX0_numberAt 22 = .ok (.iconst 1, 1) := by decide +kernel
theorem dX0_numberAt_23 : decode cX0_numberAt 23 = .ok (.iadd, 1) := by decide +kernel
theorem dX0_numberAt_24 : decode cX0_numberAt 24 = .ok (.iload_n 3, 1) := by decide +kernel
theorem dX0_numberAt_25 : decode cX0_numberAt 25 = .ok (.invokevirtual 146, 3) := by decide +kernel
theorem dX0_numberAt_28 : decode cX0_numberAt 28 = .ok (.lstore 4, 2) := by decide +kernel
theorem dX0_numberAt_30 : decode cX0_numberAt 30 = .ok (.iload_n 2, 1) := by decide +kernel
theorem dX0_numberAt_31 : decode cX0_numberAt 31 = .ok (.invokestatic 140, 3) := by decide +kernel
theorem dX0_numberAt_34 : decode cX0_numberAt 34 = .ok (.iconst 5, 1) := by decide +kernel
theorem dX0_numberAt_35 : decode cX0_numberAt 35 = .ok (.if_icmp .ne 12, 3) := by decide +kernel
theorem dX0_numberAt_38 : decode cX0_numberAt 38 = .ok (.lload 4, 2) := by decide +kernel
theorem dX0_numberAt_40 : decode cX0_numberAt 40 = .ok (.iload_n 3, 1) := by decide +kernel
theorem dX0_numberAt_41 : decode cX0_numberAt 41 = .ok (.invokestatic 150, 3) := by decide +kernel
theorem dX0_numberAt_44 : decode cX0_numberAt 44 = .ok (.goto 5, 3) := by decide +kernel
theorem dX0_numberAt_47 : decode cX0_numberAt 47 = .ok (.lload 4, 2) := by decide +kernel
theorem dX0_numberAt_49 : decode cX0_numberAt 49 = .ok (.lreturn, 1) := by decide +kernel
theorem dX0_withSign_0 : decode cX0_withSign 0 = .ok (.bipush 64, 2) := by decide +kernel
theorem dX0_withSign_2 : decode cX0_withSign 2 = .ok (.bipush 8, 2) := by decide +kernel
theorem dX0_withSign_4 : decode cX0_withSign 4 = .ok (.iload_n 2, 1) := by decide +kernel
theorem dX0_withSign_5 : decode cX0_withSign 5 = .ok (.imul, 1) := by decide +kernel
theorem dX0_withSign_6 : decode cX0_withSign 6 = .ok (.isub, 1) := by decide +kernel
theorem dX0_withSign_7 : decode cX0_withSign 7 = .ok (.istore_n 3, 1) := by decide +kernel
theorem dX0_withSign_8 : decode cX0_withSign 8 = .ok (.lload_n 0, 1) := by decide +kernel
theorem dX0_withSign_9 : decode cX0_withSign 9 = .ok (.iload_n 3, 1) := by decide +kernel
theorem dX0_withSign_10 : decode cX0_withSign 10 = .ok (.lshl, 1) := by decide +kernel
theorem dX0_withSign_11 : decode cX0_withSign 11 = .ok (.iload_n 3, 1) := by decide +kernel
theorem dX0_withSign_12 : decode cX0_withSign 12 = .ok (.lshr, 1) := by decide +kernel
theorem dX0_withSign_13 : decode cX0_withSign 13 = .ok (.lreturn, 1) := by decide +kernel
theorem dX0_typeAt_0 : decode cX0_typeAt 0 = .ok (.aload_n 0, 1) := by decide +kernel
theorem dX0_typeAt_1 : decode cX0_typeAt 1 = .ok (.getfield 9, 3) := by decide +kernel
theorem dX0_typeAt_4 : decode cX0_typeAt 4 = .ok (.iload_n 1, 1) := by decide +kernel
theorem dX0_typeAt_5 : decode cX0_typeAt 5 = .ok (.aload_n 0, 1) := by decide +kernel
theorem dX0_typeAt_6 : decode cX0_typeAt 6 = .ok (.iload_n 1, 1) := by decide +kernel
theorem dX0_typeAt_7 : decode cX0_typeAt 7 = .ok (.invokevirtual 98, 3) := by decide +kernel
theorem dX0_typeAt_10 : decode cX0_typeAt 10 = .ok (.iadd, 1) := by decide +kernel
theorem dX0_typeAt_11 : decode cX0_typeAt 11 = .ok (.iconst 1, 1) := by decide +kernel
theorem dX0_typeAt_12 : decode cX0_typeAt 12 = .ok (.isub, 1) := by decide +kernel
theorem dX0_typeAt_13 : decode cX0_typeAt 13 = .ok (.baload, 1) := by decide +kernel
theorem dX0_typeAt_14 : decode cX0_typeAt 14 = .ok (.ireturn, 1) := by decide +kernel
theorem dX0_payloadLengthAt_0 : decode cX0_payloadLengthAt 0 = .ok (.aload_n 0, 1) := by decide +kernel
theorem dX0_payloadLengthAt_1 : decode cX0_payloadLengthAt 1 = .ok (.iload_n 1, 1) := by decide +kernel
theorem dX0_payloadLengthAt_2 : decode cX0_payloadLengthAt 2 = .ok (.invokevirtual 86, 3) := by decide +kernel
theorem dX0_payloadLengthAt_5 : decode cX0_payloadLengthAt 5 = .ok (.invokestatic 154, 3) := by decide +kernel
theorem dX0_payloadLengthAt_8 : decode cX0_payloadLengthAt 8 = .ok (.ifCond .eq 12, 3) := by decide +kernel
theorem dX0_payloadLengthAt_11 : decode cX0_payloadLengthAt 11 = .ok (.aload_n 0, 1) := by decide +kernel
theorem dX0_payloadLengthAt_12 : decode cX0_payloadLengthAt 12 = .ok (.iload_n 1, 1) := by decide +kernel
theorem dX0_payloadLengthAt_13 : decode cX0_payloadLengthAt 13 = .ok (.invokevirtual 89, 3) := by decide +kernel
theorem dX0_payloadLengthAt_16 : decode cX0_payloadLengthAt 16 = .ok (.l2i, 1) := by decide +kernel
theorem dX0_payloadLengthAt_17 : decode cX0_payloadLengthAt 17 = .ok (.goto 4, 3) := by decide +kernel
theorem dX0_payloadLengthAt_20 : decode cX0_payloadLengthAt 20 = .ok (.iconst 0, 1) := by decide +kernel
theorem dX0_payloadLengthAt_21 : decode cX0_payloadLengthAt 21 = .ok (.ireturn, 1) := by decide +kernel
theorem dX0_childrenAt_0 : decode cX0_childrenAt 0 = .ok (.aload_n 0, 1) := by decide +kernel
theorem dX0_childrenAt_1 : decode cX0_childrenAt 1 = .ok (.iload_n 1, 1) := by decide +kernel
theorem dX0_childrenAt_2 : decode cX0_childrenAt 2 = .ok (.invokevirtual 86, 3) := by decide +kernel
theorem dX0_childrenAt_5 : decode cX0_childrenAt 5 = .ok (.lookupswitch 43 #[(10, 27), (11, 33)], 27) := by decide +kernel
theorem dX0_childrenAt_32 : decode cX0_childrenAt 32 = .ok (.aload_n 0, 1) := by decide +kernel
theorem dX0_childrenAt_33 : decode cX0_childrenAt 33 = .ok (.iload_n 1, 1) := by decide +kernel
theorem dX0_childrenAt_34 : decode cX0_childrenAt 34 = .ok (.invokevirtual 89, 3) := by decide +kernel
theorem dX0_childrenAt_37 : decode cX0_childrenAt 37 = .ok (.lreturn, 1) := by decide +kernel
theorem dX0_childrenAt_38 : decode cX0_childrenAt 38 = .ok (.ldc2_w 157, 3) := by decide +kernel
theorem dX0_childrenAt_41 : decode cX0_childrenAt 41 = .ok (.aload_n 0, 1) := by decide +kernel
theorem dX0_childrenAt_42 : decode cX0_childrenAt 42 = .ok (.iload_n 1, 1) := by decide +kernel
theorem dX0_childrenAt_43 : decode cX0_childrenAt 43 = .ok (.invokevirtual 89, 3) := by decide +kernel
theorem dX0_childrenAt_46 : decode cX0_childrenAt 46 = .ok (.lmul, 1) := by decide +kernel
theorem dX0_childrenAt_47 : decode cX0_childrenAt 47 = .ok (.lreturn, 1) := by decide +kernel
theorem dX0_childrenAt_48 : decode cX0_childrenAt 48 = .ok (.lconst 0, 1) := by decide +kernel
theorem dX0_childrenAt_49 : decode cX0_childrenAt 49 = .ok (.lreturn, 1) := by decide +kernel
theorem dX0_endAt_0 : decode cX0_endAt 0 = .ok (.iload_n 1, 1) := by decide +kernel
theorem dX0_endAt_1 : decode cX0_endAt 1 = .ok (.aload_n 0, 1) := by decide +kernel
theorem dX0_endAt_2 : decode cX0_endAt 2 = .ok (.iload_n 1, 1) := by decide +kernel
theorem dX0_endAt_3 : decode cX0_endAt 3 = .ok (.invokevirtual 98, 3) := by decide +kernel
theorem dX0_endAt_6 : decode cX0_endAt 6 = .ok (.iadd, 1) := by decide +kernel
theorem dX0_endAt_7 : decode cX0_endAt 7 = .ok (.aload_n 0, 1) := by decide +kernel
theorem dX0_endAt_8 : decode cX0_endAt 8 = .ok (.iload_n 1, 1) := by decide +kernel
theorem dX0_endAt_9 : decode cX0_endAt 9 = .ok (.invokevirtual 95, 3) := by decide +kernel
theorem dX0_endAt_12 : decode cX0_endAt 12 = .ok (.iadd, 1) := by decide +kernel
theorem dX0_endAt_13 : decode cX0_endAt 13 = .ok (.ireturn, 1) := by decide +kernel
theorem dX0_hasPayload_0 : decode cX0_hasPayload 0 = .ok (.iload_n 0, 1) := by decide +kernel
theorem dX0_hasPayload_1 : decode cX0_hasPayload 1 = .ok (.bipush 8, 2) := by decide +kernel
theorem dX0_hasPayload_3 : decode cX0_hasPayload 3 = .ok (.if_icmp .eq 15, 3) := by decide +kernel
theorem dX0_hasPayload_6 : decode cX0_hasPayload 6 = .ok (.iload_n 0, 1) := by decide +kernel
theorem dX0_hasPayload_7 : decode cX0_hasPayload 7 = .ok (.bipush 9, 2) := by decide +kernel
theorem dX0_hasPayload_9 : decode cX0_hasPayload 9 = .ok (.if_icmp .eq 9, 3) := by decide +kernel
end
section
theorem dX0_hasPayload_12 : decode cX0_hasPayload 12 = .ok (.iload_n 0, 1) := by decide +kernel
theorem dX0_hasPayload_13 : decode cX0_hasPayload 13 = .ok (.bipush 12, 2) := by decide +kernel
theorem dX0_hasPayload_15 : decode cX0_hasPayload 15 = .ok (.if_icmp .ne 7, 3) := by decide +kernel
theorem dX0_hasPayload_18 : decode cX0_hasPayload 18 = .ok (.iconst 1, 1) := by decide +kernel
theorem dX0_hasPayload_19 : decode cX0_hasPayload 19 = .ok (.goto 4, 3) := by decide +kernel
theorem dX0_hasPayload_22 : decode cX0_hasPayload 22 = .ok (.iconst 0, 1) := by decide +kernel
theorem dX0_hasPayload_23 : decode cX0_hasPayload 23 = .ok (.ireturn, 1) := by decide +kernel
theorem dX0_lookAt_0 : decode cX0_lookAt 0 = .ok (.iload_n 1, 1) := by decide +kernel
theorem dX0_lookAt_1 : decode cX0_lookAt 1 = .ok (.aload_n 0, 1) := by decide +kernel
theorem dX0_lookAt_2 : decode cX0_lookAt 2 = .ok (.getfield 13, 3) := by decide +kernel
theorem dX0_lookAt_5 : decode cX0_lookAt 5 = .ok (.if_icmp .lt 6, 3) := by decide +kernel
theorem dX0_lookAt_8 : decode cX0_lookAt 8 = .ok (.bipush (-2), 2) := by decide +kernel
theorem dX0_lookAt_10 : decode cX0_lookAt 10 = .ok (.ireturn, 1) := by decide +kernel
theorem dX0_lookAt_11 : decode cX0_lookAt 11 = .ok (.aload_n 0, 1) := by decide +kernel
theorem dX0_lookAt_12 : decode cX0_lookAt 12 = .ok (.iload_n 1, 1) := by decide +kernel
theorem dX0_lookAt_13 : decode cX0_lookAt 13 = .ok (.invokevirtual 58, 3) := by decide +kernel
theorem dX0_lookAt_16 : decode cX0_lookAt 16 = .ok (.istore_n 2, 1) := by decide +kernel
theorem dX0_lookAt_17 : decode cX0_lookAt 17 = .ok (.iload_n 2, 1) := by decide +kernel
theorem dX0_lookAt_18 : decode cX0_lookAt 18 = .ok (.sipush 193, 3) := by decide +kernel
theorem dX0_lookAt_21 : decode cX0_lookAt 21 = .ok (.if_icmp .ne 6, 3) := by decide +kernel
theorem dX0_lookAt_24 : decode cX0_lookAt 24 = .ok (.bipush (-3), 2) := by decide +kernel
theorem dX0_lookAt_26 : decode cX0_lookAt 26 = .ok (.ireturn, 1) := by decide +kernel
theorem dX0_lookAt_27 : decode cX0_lookAt 27 = .ok (.aload_n 0, 1) := by decide +kernel
theorem dX0_lookAt_28 : decode cX0_lookAt 28 = .ok (.getfield 13, 3) := by decide +kernel
theorem dX0_lookAt_31 : decode cX0_lookAt 31 = .ok (.iload_n 1, 1) := by decide +kernel
theorem dX0_lookAt_32 : decode cX0_lookAt 32 = .ok (.isub, 1) := by decide +kernel
theorem dX0_lookAt_33 : decode cX0_lookAt 33 = .ok (.iload_n 2, 1) := by decide +kernel
theorem dX0_lookAt_34 : decode cX0_lookAt 34 = .ok (.invokestatic 122, 3) := by decide +kernel
theorem dX0_lookAt_37 : decode cX0_lookAt 37 = .ok (.isub, 1) := by decide +kernel
theorem dX0_lookAt_38 : decode cX0_lookAt 38 = .ok (.istore_n 3, 1) := by decide +kernel
theorem dX0_lookAt_39 : decode cX0_lookAt 39 = .ok (.iload_n 3, 1) := by decide +kernel
theorem dX0_lookAt_40 : decode cX0_lookAt 40 = .ok (.ifCond .ge 6, 3) := by decide +kernel
theorem dX0_lookAt_43 : decode cX0_lookAt 43 = .ok (.bipush (-2), 2) := by decide +kernel
theorem dX0_lookAt_45 : decode cX0_lookAt 45 = .ok (.ireturn, 1) := by decide +kernel
theorem dX0_lookAt_46 : decode cX0_lookAt 46 = .ok (.iload_n 2, 1) := by decide +kernel
theorem dX0_lookAt_47 : decode cX0_lookAt 47 = .ok (.invokestatic 140, 3) := by decide +kernel
theorem dX0_lookAt_50 : decode cX0_lookAt 50 = .ok (.istore 4, 2) := by decide +kernel
theorem dX0_lookAt_52 : decode cX0_lookAt 52 = .ok (.iload 4, 2) := by decide +kernel
theorem dX0_lookAt_54 : decode cX0_lookAt 54 = .ok (.bipush 8, 2) := by decide +kernel
theorem dX0_lookAt_56 : decode cX0_lookAt 56 = .ok (.if_icmp .lt 18, 3) := by decide +kernel
theorem dX0_lookAt_59 : decode cX0_lookAt 59 = .ok (.aload_n 0, 1) := by decide +kernel
theorem dX0_lookAt_60 : decode cX0_lookAt 60 = .ok (.iload_n 1, 1) := by decide +kernel
theorem dX0_lookAt_61 : decode cX0_lookAt 61 = .ok (.invokevirtual 89, 3) := by decide +kernel
theorem dX0_lookAt_64 : decode cX0_lookAt 64 = .ok (.ldc2_w 159, 3) := by decide +kernel
theorem dX0_lookAt_67 : decode cX0_lookAt 67 = .ok (.lcmp, 1) := by decide +kernel
theorem dX0_lookAt_68 : decode cX0_lookAt 68 = .ok (.ifCond .le 6, 3) := by decide +kernel
theorem dX0_lookAt_71 : decode cX0_lookAt 71 = .ok (.bipush (-4), 2) := by decide +kernel
theorem dX0_lookAt_73 : decode cX0_lookAt 73 = .ok (.ireturn, 1) := by decide +kernel
theorem dX0_lookAt_74 : decode cX0_lookAt 74 = .ok (.aload_n 0, 1) := by decide +kernel
theorem dX0_lookAt_75 : decode cX0_lookAt 75 = .ok (.iload_n 1, 1) := by decide +kernel
theorem dX0_lookAt_76 : decode cX0_lookAt 76 = .ok (.invokevirtual 95, 3) := by decide +kernel
theorem dX0_lookAt_79 : decode cX0_lookAt 79 = .ok (.iload_n 3, 1) := by decide +kernel
theorem dX0_lookAt_80 : decode cX0_lookAt 80 = .ok (.if_icmp .le 8, 3) := by decide +kernel
theorem dX0_lookAt_83 : decode cX0_lookAt 83 = .ok (.bipush (-2), 2) := by decide +kernel
theorem dX0_lookAt_85 : decode cX0_lookAt 85 = .ok (.goto 5, 3) := by decide +kernel
theorem dX0_lookAt_88 : decode cX0_lookAt 88 = .ok (.iload 4, 2) := by decide +kernel
theorem dX0_lookAt_90 : decode cX0_lookAt 90 = .ok (.ireturn, 1) := by decide +kernel
theorem dX0_lastHeadFrom_0 : decode cX0_lastHeadFrom 0 = .ok (.iload_n 1, 1) := by decide +kernel
theorem dX0_lastHeadFrom_1 : decode cX0_lastHeadFrom 1 = .ok (.istore_n 2, 1) := by decide +kernel
theorem dX0_lastHeadFrom_2 : decode cX0_lastHeadFrom 2 = .ok (.lconst 1, 1) := by decide +kernel
theorem dX0_lastHeadFrom_3 : decode cX0_lastHeadFrom 3 = .ok (.lstore_n 3, 1) := by decide +kernel
theorem dX0_lastHeadFrom_4 : decode cX0_lastHeadFrom 4 = .ok (.iconst 0, 1) := by decide +kernel
theorem dX0_lastHeadFrom_5 : decode cX0_lastHeadFrom 5 = .ok (.istore 5, 2) := by decide +kernel
theorem dX0_lastHeadFrom_7 : decode cX0_lastHeadFrom 7 = .ok (.iload 5, 2) := by decide +kernel
theorem dX0_lastHeadFrom_9 : decode cX0_lastHeadFrom 9 = .ok (.sipush 4096, 3) := by decide +kernel
theorem dX0_lastHeadFrom_12 : decode cX0_lastHeadFrom 12 = .ok (.if_icmp .gt 48, 3) := by decide +kernel
theorem dX0_lastHeadFrom_15 : decode cX0_lastHeadFrom 15 = .ok (.aload_n 0, 1) := by decide +kernel
theorem dX0_lastHeadFrom_16 : decode cX0_lastHeadFrom 16 = .ok (.iload_n 2, 1) := by decide +kernel
theorem dX0_lastHeadFrom_17 : decode cX0_lastHeadFrom 17 = .ok (.invokevirtual 62, 3) := by decide +kernel
theorem dX0_lastHeadFrom_20 : decode cX0_lastHeadFrom 20 = .ok (.istore 6, 2) := by decide +kernel
theorem dX0_lastHeadFrom_22 : decode cX0_lastHeadFrom 22 = .ok (.iload 6, 2) := by decide +kernel
theorem dX0_lastHeadFrom_24 : decode cX0_lastHeadFrom 24 = .ok (.ifCond .ge 6, 3) := by decide +kernel
theorem dX0_lastHeadFrom_27 : decode cX0_lastHeadFrom 27 = .ok (.iload 6, 2) := by decide +kernel
theorem dX0_lastHeadFrom_29 : decode cX0_lastHeadFrom 29 = .ok (.ireturn, 1) := by decide +kernel
theorem dX0_lastHeadFrom_30 : decode cX0_lastHeadFrom 30 = .ok (.lload_n 3, 1) := by decide +kernel
theorem dX0_lastHeadFrom_31 : decode cX0_lastHeadFrom 31 = .ok (.aload_n 0, 1) := by decide +kernel
theorem dX0_lastHeadFrom_32 : decode cX0_lastHeadFrom 32 = .ok (.iload_n 2, 1) := by decide +kernel
theorem dX0_lastHeadFrom_33 : decode cX0_lastHeadFrom 33 = .ok (.invokevirtual 65, 3) := by decide +kernel
theorem dX0_lastHeadFrom_36 : decode cX0_lastHeadFrom 36 = .ok (.lconst 1, 1) := by decide +kernel
theorem dX0_lastHeadFrom_37 : decode cX0_lastHeadFrom 37 = .ok (.lsub, 1) := by decide +kernel
theorem dX0_lastHeadFrom_38 : decode cX0_lastHeadFrom 38 = .ok (.ladd, 1) := by decide +kernel
theorem dX0_lastHeadFrom_39 : decode cX0_lastHeadFrom 39 = .ok (.lstore_n 3, 1) := by decide +kernel
theorem dX0_lastHeadFrom_40 : decode cX0_lastHeadFrom 40 = .ok (.lload_n 3, 1) := by decide +kernel
theorem dX0_lastHeadFrom_41 : decode cX0_lastHeadFrom 41 = .ok (.lconst 0, 1) := by decide +kernel
theorem dX0_lastHeadFrom_42 : decode cX0_lastHeadFrom 42 = .ok (.lcmp, 1) := by decide +kernel
theorem dX0_lastHeadFrom_43 : decode cX0_lastHeadFrom 43 = .ok (.ifCond .ne 5, 3) := by decide +kernel
theorem dX0_lastHeadFrom_46 : decode cX0_lastHeadFrom 46 = .ok (.iload_n 2, 1) := by decide +kernel
theorem dX0_lastHeadFrom_47 : decode cX0_lastHeadFrom 47 = .ok (.ireturn, 1) := by decide +kernel
theorem dX0_lastHeadFrom_48 : decode cX0_lastHeadFrom 48 = .ok (.aload_n 0, 1) := by decide +kernel
theorem dX0_lastHeadFrom_49 : decode cX0_lastHeadFrom 49 = .ok (.iload_n 2, 1) := by decide +kernel
theorem dX0_lastHeadFrom_50 : decode cX0_lastHeadFrom 50 = .ok (.invokevirtual 105, 3) := by decide +kernel
theorem dX0_lastHeadFrom_53 : decode cX0_lastHeadFrom 53 = .ok (.istore_n 2, 1) := by decide +kernel
theorem dX0_lastHeadFrom_54 : decode cX0_lastHeadFrom 54 = .ok (.iinc 5 1, 3) := by decide +kernel
theorem dX0_lastHeadFrom_57 : decode cX0_lastHeadFrom 57 = .ok (.goto (-50), 3) := by decide +kernel
theorem dX0_lastHeadFrom_60 : decode cX0_lastHeadFrom 60 = .ok (.bipush (-2), 2) := by decide +kernel
theorem dX0_lastHeadFrom_62 : decode cX0_lastHeadFrom 62 = .ok (.ireturn, 1) := by decide +kernel
theorem dX0_consume_0 : decode cX0_consume 0 = .ok (.aload_n 0, 1) := by decide +kernel
theorem dX0_consume_1 : decode cX0_consume 1 = .ok (.iload_n 1, 1) := by decide +kernel
theorem dX0_consume_2 : decode cX0_consume 2 = .ok (.putfield 20, 3) := by decide +kernel
theorem dX0_consume_5 : decode cX0_consume 5 = .ok (.aload_n 0, 1) := by decide +kernel
theorem dX0_consume_6 : decode cX0_consume 6 = .ok (.aload_n 0, 1) := by decide +kernel
theorem dX0_consume_7 : decode cX0_consume 7 = .ok (.iload_n 1, 1) := by decide +kernel
theorem dX0_consume_8 : decode cX0_consume 8 = .ok (.invokevirtual 105, 3) := by decide +kernel
theorem dX0_consume_11 : decode cX0_consume 11 = .ok (.putfield 17, 3) := by decide +kernel
theorem dX0_consume_14 : decode cX0_consume 14 = .ok (.return_, 1) := by decide +kernel
theorem dX0_countChild_0 : decode cX0_countChild 0 = .ok (.aload_n 0, 1) := by decide +kernel
theorem dX0_countChild_1 : decode cX0_countChild 1 = .ok (.getfield 27, 3) := by decide +kernel
theorem dX0_countChild_4 : decode cX0_countChild 4 = .ok (.ifCond .le 18, 3) := by decide +kernel
theorem dX0_countChild_7 : decode cX0_countChild 7 = .ok (.aload_n 0, 1) := by decide +kernel
theorem dX0_countChild_8 : decode cX0_countChild 8 = .ok (.getfield 23, 3) := by decide +kernel
theorem dX0_countChild_11 : decode cX0_countChild 11 = .ok (.aload_n 0, 1) := by decide +kernel
theorem dX0_countChild_12 : decode cX0_countChild 12 = .ok (.getfield 27, 3) := by decide +kernel
theorem dX0_countChild_15 : decode cX0_countChild 15 = .ok (.iconst 1, 1) := by decide +kernel
theorem dX0_countChild_16 : decode cX0_countChild 16 = .ok (.isub, 1) := by decide +kernel
theorem dX0_countChild_17 : decode cX0_countChild 17 = .ok (.dup2, 1) := by decide +kernel
theorem dX0_countChild_18 : decode cX0_countChild 18 = .ok (.laload, 1) := by decide +kernel
theorem dX0_countChild_19 : decode cX0_countChild 19 = .ok (.lconst 1, 1) := by decide +kernel
theorem dX0_countChild_20 : decode cX0_countChild 20 = .ok (.lsub, 1) := by decide +kernel
theorem dX0_countChild_21 : decode cX0_countChild 21 = .ok (.lastore, 1) := by decide +kernel
theorem dX0_countChild_22 : decode cX0_countChild 22 = .ok (.return_, 1) := by decide +kernel
theorem dX0_openContainer_0 : decode cX0_openContainer 0 = .ok (.lload_n 1, 1) := by decide +kernel
theorem dX0_openContainer_1 : decode cX0_openContainer 1 = .ok (.lconst 0, 1) := by decide +kernel
theorem dX0_openContainer_2 : decode cX0_openContainer 2 = .ok (.lcmp, 1) := by decide +kernel
theorem dX0_openContainer_3 : decode cX0_openContainer 3 = .ok (.ifCond .le 32, 3) := by decide +kernel
theorem dX0_openContainer_6 : decode cX0_openContainer 6 = .ok (.aload_n 0, 1) := by decide +kernel
theorem dX0_openContainer_7 : decode cX0_openContainer 7 = .ok (.getfield 27, 3) := by decide +kernel
theorem dX0_openContainer_10 : decode cX0_openContainer 10 = .ok (.bipush 100, 2) := by decide +kernel
theorem dX0_openContainer_12 : decode cX0_openContainer 12 = .ok (.if_icmp .ge 23, 3) := by decide +kernel
theorem dX0_openContainer_15 : decode cX0_openContainer 15 = .ok (.aload_n 0, 1) := by decide +kernel
theorem dX0_openContainer_16 : decode cX0_openContainer 16 = .ok (.getfield 23, 3) := by decide +kernel
theorem dX0_openContainer_19 : decode cX0_openContainer 19 = .ok (.aload_n 0, 1) := by decide +kernel
theorem dX0_openContainer_20 : decode cX0_openContainer 20 = .ok (.getfield 27, 3) := by decide +kernel
theorem dX0_openContainer_23 : decode cX0_openContainer 23 = .ok (.lload_n 1, 1) := by decide +kernel
theorem dX0_openContainer_24 : decode cX0_openContainer 24 = .ok (.lastore, 1) := by decide +kernel
theorem dX0_openContainer_25 : decode cX0_openContainer 25 = .ok (.aload_n 0, 1) := by decide +kernel
theorem dX0_openContainer_26 : decode cX0_openContainer 26 = .ok (.dup, 1) := by decide +kernel
theorem dX0_openContainer_27 : decode cX0_openContainer 27 = .ok (.getfield 27, 3) := by decide +kernel
theorem dX0_openContainer_30 : decode cX0_openContainer 30 = .ok (.iconst 1, 1) := by decide +kernel
theorem dX0_openContainer_31 : decode cX0_openContainer 31 = .ok (.iadd, 1) := by decide +kernel
theorem dX0_openContainer_32 : decode cX0_openContainer 32 = .ok (.putfield 27, 3) := by decide +kernel
theorem dX0_openContainer_35 : decode cX0_openContainer 35 = .ok (.return_, 1) := by decide +kernel
theorem dX0_closeFinished_0 : decode cX0_closeFinished 0 = .ok (.aload_n 0, 1) := by decide +kernel
theorem dX0_closeFinished_1 : decode cX0_closeFinished 1 = .ok (.getfield 27, 3) := by decide +kernel
theorem dX0_closeFinished_4 : decode cX0_closeFinished 4 = .ok (.ifCond .le 32, 3) := by decide +kernel
theorem dX0_closeFinished_7 : decode cX0_closeFinished 7 = .ok (.aload_n 0, 1) := by decide +kernel
theorem dX0_closeFinished_8 : decode cX0_closeFinished 8 = .ok (.getfield 23, 3) := by decide +kernel
theorem dX0_closeFinished_11 : decode cX0_closeFinished 11 = .ok (.aload_n 0, 1) := by decide +kernel
theorem dX0_closeFinished_12 : decode cX0_closeFinished 12 = .ok (.getfield 27, 3) := by decide +kernel
theorem dX0_closeFinished_15 : decode cX0_closeFinished 15 = .ok (.iconst 1, 1) := by decide +kernel
theorem dX0_closeFinished_16 : decode cX0_closeFinished 16 = .ok (.isub, 1) := by decide +kernel
theorem dX0_closeFinished_17 : decode cX0_closeFinished 17 = .ok (.laload, 1) := by decide +kernel
theorem dX0_closeFinished_18 : decode cX0_closeFinished 18 = .ok (.lconst 0, 1) := by decide +kernel
theorem dX0_closeFinished_19 : decode cX0_closeFinished 19 = .ok (.lcmp, 1) := by decide +kernel
theorem dX0_closeFinished_20 : decode cX0_closeFinished 20 = .ok (.ifCond .ne 16, 3) := by decide +kernel
theorem dX0_closeFinished_23 : decode cX0_closeFinished 23 = .ok (.aload_n 0, 1) := by decide +kernel
theorem dX0_closeFinished_24 : decode cX0_closeFinished 24 = .ok (.dup, 1) := by decide +kernel
theorem dX0_closeFinished_25 : decode cX0_closeFinished 25 = .ok (.getfield 27, 3) := by decide +kernel
theorem dX0_closeFinished_28 : decode cX0_closeFinished 28 = .ok (.iconst 1, 1) := by decide +kernel
theorem dX0_closeFinished_29 : decode cX0_closeFinished 29 = .ok (.isub, 1) := by decide +kernel
theorem dX0_closeFinished_30 : decode cX0_closeFinished 30 = .ok (.putfield 27, 3) := by decide +kernel
theorem dX0_closeFinished_33 : decode cX0_closeFinished 33 = .ok (.goto (-33), 3) := by decide +kernel
theorem dX0_closeFinished_36 : decode cX0_closeFinished 36 = .ok (.return_, 1) := by decide +kernel
theorem dX0_numberOf_0 : decode cX0_numberOf 0 = .ok (.iload_n 0, 1) := by decide +kernel
theorem dX0_numberOf_1 : decode cX0_numberOf 1 = .ok (.iconst 5, 1) := by decide +kernel
theorem dX0_numberOf_2 : decode cX0_numberOf 2 = .ok (.if_icmp .le 9, 3) := by decide +kernel
theorem dX0_numberOf_5 : decode cX0_numberOf 5 = .ok (.iload_n 0, 1) := by decide +kernel
theorem dX0_numberOf_6 : decode cX0_numberOf 6 = .ok (.bipush 7, 2) := by decide +kernel
theorem dX0_numberOf_8 : decode cX0_numberOf 8 = .ok (.if_icmp .ne 7, 3) := by decide +kernel
theorem dX0_numberOf_11 : decode cX0_numberOf 11 = .ok (.iconst 1, 1) := by decide +kernel
theorem dX0_numberOf_12 : decode cX0_numberOf 12 = .ok (.goto 4, 3) := by decide +kernel
theorem dX0_numberOf_15 : decode cX0_numberOf 15 = .ok (.iconst 0, 1) := by decide +kernel
theorem dX0_numberOf_16 : decode cX0_numberOf 16 = .ok (.istore_n 3, 1) := by decide +kernel
theorem dX0_numberOf_17 : decode cX0_numberOf 17 = .ok (.iload_n 1, 1) := by decide +kernel
theorem dX0_numberOf_18 : decode cX0_numberOf 18 = .ok (.i2l, 1) := by decide +kernel
theorem dX0_numberOf_19 : decode cX0_numberOf 19 = .ok (.ldc2_w 161, 3) := by decide +kernel
theorem dX0_numberOf_22 : decode cX0_numberOf 22 = .ok (.land, 1) := by decide +kernel
theorem dX0_numberOf_23 : decode cX0_numberOf 23 = .ok (.lstore 4, 2) := by decide +kernel
theorem dX0_numberOf_25 : decode cX0_numberOf 25 = .ok (.iload_n 3, 1) := by decide +kernel
theorem dX0_numberOf_26 : decode cX0_numberOf 26 = .ok (.ifCond .eq 14, 3) := by decide +kernel
theorem dX0_numberOf_29 : decode cX0_numberOf 29 = .ok (.iload_n 2, 1) := by decide +kernel
theorem dX0_numberOf_30 : decode cX0_numberOf 30 = .ok (.i2l, 1) := by decide +kernel
theorem dX0_numberOf_31 : decode cX0_numberOf 31 = .ok (.bipush 32, 2) := by decide +kernel
theorem dX0_numberOf_33 : decode cX0_numberOf 33 = .ok (.lshl, 1) := by decide +kernel
theorem dX0_numberOf_34 : decode cX0_numberOf 34 = .ok (.lload 4, 2) := by decide +kernel
theorem dX0_numberOf_36 : decode cX0_numberOf 36 = .ok (.lor, 1) := by decide +kernel
theorem dX0_numberOf_37 : decode cX0_numberOf 37 = .ok (.goto 5, 3) := by decide +kernel
theorem dX0_numberOf_40 : decode cX0_numberOf 40 = .ok (.lload 4, 2) := by decide +kernel
theorem dX0_numberOf_42 : decode cX0_numberOf 42 = .ok (.lreturn, 1) := by decide +kernel
theorem dX0_shortestForm_0 : decode cX0_shortestForm 0 = .ok (.iload_n 0, 1) := by decide +kernel
theorem dX0_shortestForm_1 : decode cX0_shortestForm 1 = .ok (.tableswitch 226 1 11 #[59, 63, 67, 71, 99, 131, 135, 139, 165, 174, 200], 59) := by decide +kernel
theorem dX0_shortestForm_60 : decode cX0_shortestForm 60 = .ok (.sipush 192, 3) := by decide +kernel
theorem dX0_shortestForm_63 : decode cX0_shortestForm 63 = .ok (.ireturn, 1) := by decide +kernel
theorem dX0_shortestForm_64 : decode cX0_shortestForm 64 = .ok (.sipush 194, 3) := by decide +kernel
theorem dX0_shortestForm_67 : decode cX0_shortestForm 67 = .ok (.ireturn, 1) := by decide +kernel
theorem dX0_shortestForm_68 : decode cX0_shortestForm 68 = .ok (.sipush 195, 3) := by decide +kernel
theorem dX0_shortestForm_71 : decode cX0_shortestForm 71 = .ok (.ireturn, 1) := by decide +kernel
theorem dX0_shortestForm_72 : decode cX0_shortestForm 72 = .ok (.lload_n 1, 1) := by decide +kernel
theorem dX0_shortestForm_73 : decode cX0_shortestForm 73 = .ok (.lconst 0, 1) := by decide +kernel
theorem dX0_shortestForm_74 : decode cX0_shortestForm 74 = .ok (.lcmp, 1) := by decide +kernel
theorem dX0_shortestForm_75 : decode cX0_shortestForm 75 = .ok (.ifCond .lt 16, 3) := by decide +kernel
theorem dX0_shortestForm_78 : decode cX0_shortestForm 78 = .ok (.lload_n 1, 1) := by decide +kernel
theorem dX0_shortestForm_79 : decode cX0_shortestForm 79 = .ok (.ldc2_w 163, 3) := by decide +kernel
theorem dX0_shortestForm_82 : decode cX0_shortestForm 82 = .ok (.lcmp, 1) := by decide +kernel
theorem dX0_shortestForm_83 : decode cX0_shortestForm 83 = .ok (.ifCond .ge 8, 3) := by decide +kernel
theorem dX0_shortestForm_86 : decode cX0_shortestForm 86 = .ok (.lload_n 1, 1) := by decide +kernel
theorem dX0_shortestForm_87 : decode cX0_shortestForm 87 = .ok (.l2i, 1) := by decide +kernel
theorem dX0_shortestForm_88 : decode cX0_shortestForm 88 = .ok (.goto 11, 3) := by decide +kernel
theorem dX0_shortestForm_91 : decode cX0_shortestForm 91 = .ok (.sipush 204, 3) := by decide +kernel
theorem dX0_shortestForm_94 : decode cX0_shortestForm 94 = .ok (.lload_n 1, 1) := by decide +kernel
theorem dX0_shortestForm_95 : decode cX0_shortestForm 95 = .ok (.invokestatic 165, 3) := by decide +kernel
theorem dX0_shortestForm_98 : decode cX0_shortestForm 98 = .ok (.iadd, 1) := by decide +kernel
theorem dX0_shortestForm_99 : decode cX0_shortestForm 99 = .ok (.ireturn, 1) := by decide +kernel
theorem dX0_shortestForm_100 : decode cX0_shortestForm 100 = .ok (.lload_n 1, 1) := by decide +kernel
theorem dX0_shortestForm_101 : decode cX0_shortestForm 101 = .ok (.ldc2_w 169, 3) := by decide +kernel
theorem dX0_shortestForm_104 : decode cX0_shortestForm 104 = .ok (.lcmp, 1) := by decide +kernel
theorem dX0_shortestForm_105 : decode cX0_shortestForm 105 = .ok (.ifCond .lt 18, 3) := by decide +kernel
theorem dX0_shortestForm_108 : decode cX0_shortestForm 108 = .ok (.lload_n 1, 1) := by decide +kernel
theorem dX0_shortestForm_109 : decode cX0_shortestForm 109 = .ok (.lconst 0, 1) := by decide +kernel
theorem dX0_shortestForm_110 : decode cX0_shortestForm 110 = .ok (.lcmp, 1) := by decide +kernel
theorem dX0_shortestForm_111 : decode cX0_shortestForm 111 = .ok (.ifCond .ge 12, 3) := by decide +kernel
theorem dX0_shortestForm_114 : decode cX0_shortestForm 114 = .ok (.sipush 256, 3) := by decide +kernel
theorem dX0_shortestForm_117 : decode cX0_shortestForm 117 = .ok (.lload_n 1, 1) := by decide +kernel
theorem dX0_shortestForm_118 : decode cX0_shortestForm 118 = .ok (.l2i, 1) := by decide +kernel
theorem dX0_shortestForm_119 : decode cX0_shortestForm 119 = .ok (.iadd, 1) := by decide +kernel
theorem dX0_shortestForm_120 : decode cX0_shortestForm 120 = .ok (.goto 11, 3) := by decide +kernel
theorem dX0_shortestForm_123 : decode cX0_shortestForm 123 = .ok (.sipush 208, 3) := by decide +kernel
theorem dX0_shortestForm_126 : decode cX0_shortestForm 126 = .ok (.lload_n 1, 1) := by decide +kernel
theorem dX0_shortestForm_127 : decode cX0_shortestForm 127 = .ok (.invokestatic 171, 3) := by decide +kernel
theorem dX0_shortestForm_130 : decode cX0_shortestForm 130 = .ok (.iadd, 1) := by decide +kernel
theorem dX0_shortestForm_131 : decode cX0_shortestForm 131 = .ok (.ireturn, 1) := by decide +kernel
theorem dX0_shortestForm_132 : decode cX0_shortestForm 132 = .ok (.sipush 202, 3) := by decide +kernel
theorem dX0_shortestForm_135 : decode cX0_shortestForm 135 = .ok (.ireturn, 1) := by decide +kernel
theorem dX0_shortestForm_136 : decode cX0_shortestForm 136 = .ok (.sipush 203, 3) := by decide +kernel
theorem dX0_shortestForm_139 : decode cX0_shortestForm 139 = .ok (.ireturn, 1) := by decide +kernel
theorem dX0_shortestForm_140 : decode cX0_shortestForm 140 = .ok (.lload_n 1, 1) := by decide +kernel
theorem dX0_shortestForm_141 : decode cX0_shortestForm 141 = .ok (.ldc2_w 174, 3) := by decide +kernel
theorem dX0_shortestForm_144 : decode cX0_shortestForm 144 = .ok (.lcmp, 1) := by decide +kernel
theorem dX0_shortestForm_145 : decode cX0_shortestForm 145 = .ok (.ifCond .ge 12, 3) := by decide +kernel
theorem dX0_shortestForm_148 : decode cX0_shortestForm 148 = .ok (.sipush 160, 3) := by decide +kernel
theorem dX0_shortestForm_151 : decode cX0_shortestForm 151 = .ok (.lload_n 1, 1) := by decide +kernel
theorem dX0_shortestForm_152 : decode cX0_shortestForm 152 = .ok (.l2i, 1) := by decide +kernel
theorem dX0_shortestForm_153 : decode cX0_shortestForm 153 = .ok (.iadd, 1) := by decide +kernel
theorem dX0_shortestForm_154 : decode cX0_shortestForm 154 = .ok (.goto 11, 3) := by decide +kernel
theorem dX0_shortestForm_157 : decode cX0_shortestForm 157 = .ok (.sipush 217, 3) := by decide +kernel
theorem dX0_shortestForm_160 : decode cX0_shortestForm 160 = .ok (.lload_n 1, 1) := by decide +kernel
theorem dX0_shortestForm_161 : decode cX0_shortestForm 161 = .ok (.invokestatic 165, 3) := by decide +kernel
theorem dX0_shortestForm_164 : decode cX0_shortestForm 164 = .ok (.iadd, 1) := by decide +kernel
theorem dX0_shortestForm_165 : decode cX0_shortestForm 165 = .ok (.ireturn, 1) := by decide +kernel
theorem dX0_shortestForm_166 : decode cX0_shortestForm 166 = .ok (.sipush 196, 3) := by decide +kernel
theorem dX0_shortestForm_169 : decode cX0_shortestForm 169 = .ok (.lload_n 1, 1) := by decide +kernel
theorem dX0_shortestForm_170 : decode cX0_shortestForm 170 = .ok (.invokestatic 165, 3) := by decide +kernel
theorem dX0_shortestForm_173 : decode cX0_shortestForm 173 = .ok (.iadd, 1) := by decide +kernel
theorem dX0_shortestForm_174 : decode cX0_shortestForm 174 = .ok (.ireturn, 1) := by decide +kernel
theorem dX0_shortestForm_175 : decode cX0_shortestForm 175 = .ok (.lload_n 1, 1) := by decide +kernel
theorem dX0_shortestForm_176 : decode cX0_shortestForm 176 = .ok (.ldc2_w 176, 3) := by decide +kernel
theorem dX0_shortestForm_179 : decode cX0_shortestForm 179 = .ok (.lcmp, 1) := by decide +kernel
theorem dX0_shortestForm_180 : decode cX0_shortestForm 180 = .ok (.ifCond .ge 12, 3) := by decide +kernel
theorem dX0_shortestForm_183 : decode cX0_shortestForm 183 = .ok (.sipush 144, 3) := by decide +kernel
theorem dX0_shortestForm_186 : decode cX0_shortestForm 186 = .ok (.lload_n 1, 1) := by decide +kernel
theorem dX0_shortestForm_187 : decode cX0_shortestForm 187 = .ok (.l2i, 1) := by decide +kernel
theorem dX0_shortestForm_188 : decode cX0_shortestForm 188 = .ok (.iadd, 1) := by decide +kernel
theorem dX0_shortestForm_189 : decode cX0_shortestForm 189 = .ok (.goto 11, 3) := by decide +kernel
theorem dX0_shortestForm_192 : decode cX0_shortestForm 192 = .ok (.sipush 220, 3) := by decide +kernel
theorem dX0_shortestForm_195 : decode cX0_shortestForm 195 = .ok (.lload_n 1, 1) := by decide +kernel
theorem dX0_shortestForm_196 : decode cX0_shortestForm 196 = .ok (.invokestatic 178, 3) := by decide +kernel
theorem dX0_shortestForm_199 : decode cX0_shortestForm 199 = .ok (.iadd, 1) := by decide +kernel
theorem dX0_shortestForm_200 : decode cX0_shortestForm 200 = .ok (.ireturn, 1) := by decide +kernel
theorem dX0_shortestForm_201 : decode cX0_shortestForm 201 = .ok (.lload_n 1, 1) := by decide +kernel
theorem dX0_shortestForm_202 : decode cX0_shortestForm 202 = .ok (.ldc2_w 176, 3) := by decide +kernel
theorem dX0_shortestForm_205 : decode cX0_shortestForm 205 = .ok (.lcmp, 1) := by decide +kernel
theorem dX0_shortestForm_206 : decode cX0_shortestForm 206 = .ok (.ifCond .ge 12, 3) := by decide +kernel
theorem dX0_shortestForm_209 : decode cX0_shortestForm 209 = .ok (.sipush 128, 3) := by decide +kernel
theorem dX0_shortestForm_212 : decode cX0_shortestForm 212 = .ok (.lload_n 1, 1) := by decide +kernel
theorem dX0_shortestForm_213 : decode cX0_shortestForm 213 = .ok (.l2i, 1) := by decide +kernel
theorem dX0_shortestForm_214 : decode cX0_shortestForm 214 = .ok (.iadd, 1) := by decide +kernel
theorem dX0_shortestForm_215 : decode cX0_shortestForm 215 = .ok (.goto 11, 3) := by decide +kernel
theorem dX0_shortestForm_218 : decode cX0_shortestForm 218 = .ok (.sipush 222, 3) := by decide +kernel
theorem dX0_shortestForm_221 : decode cX0_shortestForm 221 = .ok (.lload_n 1, 1) := by decide +kernel
theorem dX0_shortestForm_222 : decode cX0_shortestForm 222 = .ok (.invokestatic 178, 3) := by decide +kernel
theorem dX0_shortestForm_225 : decode cX0_shortestForm 225 = .ok (.iadd, 1) := by decide +kernel
theorem dX0_shortestForm_226 : decode cX0_shortestForm 226 = .ok (.ireturn, 1) := by decide +kernel
theorem dX0_shortestForm_227 : decode cX0_shortestForm 227 = .ok (.lload_n 1, 1) := by decide +kernel
theorem dX0_shortestForm_228 : decode cX0_shortestForm 228 = .ok (.invokestatic 181, 3) := by decide +kernel
theorem dX0_shortestForm_231 : decode cX0_shortestForm 231 = .ok (.ireturn, 1) := by decide +kernel
theorem dX0_extensionForm_0 : decode cX0_extensionForm 0 = .ok (.iconst 0, 1) := by decide +kernel
theorem dX0_extensionForm_1 : decode cX0_extensionForm 1 = .ok (.istore_n 2, 1) := by decide +kernel
theorem dX0_extensionForm_2 : decode cX0_extensionForm 2 = .ok (.iload_n 2, 1) := by decide +kernel
theorem dX0_extensionForm_3 : decode cX0_extensionForm 3 = .ok (.iconst 5, 1) := by decide +kernel
theorem dX0_extensionForm_4 : decode cX0_extensionForm 4 = .ok (.if_icmp .ge 23, 3) := by decide +kernel
theorem dX0_extensionForm_7 : decode cX0_extensionForm 7 = .ok (.lload_n 0, 1) := by decide +kernel
theorem dX0_extensionForm_8 : decode cX0_extensionForm 8 = .ok (.lconst 1, 1) := by decide +kernel
theorem dX0_extensionForm_9 : decode cX0_extensionForm 9 = .ok (.iload_n 2, 1) := by decide +kernel
theorem dX0_extensionForm_10 : decode cX0_extensionForm 10 = .ok (.lshl, 1) := by decide +kernel
theorem dX0_extensionForm_11 : decode cX0_extensionForm 11 = .ok (.lcmp, 1) := by decide +kernel
theorem dX0_extensionForm_12 : decode cX0_extensionForm 12 = .ok (.ifCond .ne 9, 3) := by decide +kernel
theorem dX0_extensionForm_15 : decode cX0_extensionForm 15 = .ok (.sipush 212, 3) := by decide +kernel
theorem dX0_extensionForm_18 : decode cX0_extensionForm 18 = .ok (.iload_n 2, 1) := by decide +kernel
theorem dX0_extensionForm_19 : decode cX0_extensionForm 19 = .ok (.iadd, 1) := by decide +kernel
theorem dX0_extensionForm_20 : decode cX0_extensionForm 20 = .ok (.ireturn, 1) := by decide +kernel
theorem dX0_extensionForm_21 : decode cX0_extensionForm 21 = .ok (.iinc 2 1, 3) := by decide +kernel
theorem dX0_extensionForm_24 : decode cX0_extensionForm 24 = .ok (.goto (-22), 3) := by decide +kernel
theorem dX0_extensionForm_27 : decode cX0_extensionForm 27 = .ok (.sipush 199, 3) := by decide +kernel
theorem dX0_extensionForm_30 : decode cX0_extensionForm 30 = .ok (.lload_n 0, 1) := by decide +kernel
theorem dX0_extensionForm_31 : decode cX0_extensionForm 31 = .ok (.invokestatic 165, 3) := by decide +kernel
theorem dX0_extensionForm_34 : decode cX0_extensionForm 34 = .ok (.iadd, 1) := by decide +kernel
theorem dX0_extensionForm_35 : decode cX0_extensionForm 35 = .ok (.ireturn, 1) := by decide +kernel
theorem dX0_unsignedStep_0 : decode cX0_unsignedStep 0 = .ok (.lload_n 0, 1) := by decide +kernel
theorem dX0_unsignedStep_1 : decode cX0_unsignedStep 1 = .ok (.bipush 8, 2) := by decide +kernel
theorem dX0_unsignedStep_3 : decode cX0_unsignedStep 3 = .ok (.lushr, 1) := by decide +kernel
theorem dX0_unsignedStep_4 : decode cX0_unsignedStep 4 = .ok (.lconst 0, 1) := by decide +kernel
theorem dX0_unsignedStep_5 : decode cX0_unsignedStep 5 = .ok (.lcmp, 1) := by decide +kernel
theorem dX0_unsignedStep_6 : decode cX0_unsignedStep 6 = .ok (.ifCond .ne 5, 3) := by decide +kernel
theorem dX0_unsignedStep_9 : decode cX0_unsignedStep 9 = .ok (.iconst 0, 1) := by decide +kernel
theorem dX0_unsignedStep_10 : decode cX0_unsignedStep 10 = .ok (.ireturn, 1) := by decide +kernel
theorem dX0_unsignedStep_11 : decode cX0_unsignedStep 11 = .ok (.lload_n 0, 1) := by decide +kernel
theorem dX0_unsignedStep_12 : decode cX0_unsignedStep 12 = .ok (.bipush 16, 2) := by decide +kernel
theorem dX0_unsignedStep_14 : decode cX0_unsignedStep 14 = .ok (.lushr, 1) := by decide +kernel
theorem dX0_unsignedStep_15 : decode cX0_unsignedStep 15 = .ok (.lconst 0, 1) := by decide +kernel
theorem dX0_unsignedStep_16 : decode cX0_unsignedStep 16 = .ok (.lcmp, 1) := by decide +kernel
theorem dX0_unsignedStep_17 : decode cX0_unsignedStep 17 = .ok (.ifCond .ne 5, 3) := by decide +kernel
theorem dX0_unsignedStep_20 : decode cX0_unsignedStep 20 = .ok (.iconst 1, 1) := by decide +kernel
theorem dX0_unsignedStep_21 : decode cX0_unsignedStep 21 = .ok (.ireturn, 1) := by decide +kernel
theorem dX0_unsignedStep_22 : decode cX0_unsignedStep 22 = .ok (.lload_n 0, 1) := by decide +kernel
theorem dX0_unsignedStep_23 : decode cX0_unsignedStep 23 = .ok (.bipush 32, 2) := by decide +kernel
theorem dX0_unsignedStep_25 : decode cX0_unsignedStep 25 = .ok (.lushr, 1) := by decide +kernel
theorem dX0_unsignedStep_26 : decode cX0_unsignedStep 26 = .ok (.lconst 0, 1) := by decide +kernel
theorem dX0_unsignedStep_27 : decode cX0_unsignedStep 27 = .ok (.lcmp, 1) := by decide +kernel
theorem dX0_unsignedStep_28 : decode cX0_unsignedStep 28 = .ok (.ifCond .ne 7, 3) := by decide +kernel
theorem dX0_unsignedStep_31 : decode cX0_unsignedStep 31 = .ok (.iconst 2, 1) := by decide +kernel
theorem dX0_unsignedStep_32 : decode cX0_unsignedStep 32 = .ok (.goto 4, 3) := by decide +kernel
theorem dX0_unsignedStep_35 : decode cX0_unsignedStep 35 = .ok (.iconst 3, 1) := by decide +kernel
theorem dX0_unsignedStep_36 : decode cX0_unsignedStep 36 = .ok (.ireturn, 1) := by decide +kernel
theorem dX0_signedStep_0 : decode cX0_signedStep 0 = .ok (.lload_n 0, 1) := by decide +kernel
theorem dX0_signedStep_1 : decode cX0_signedStep 1 = .ok (.lload_n 0, 1) := by decide +kernel
theorem dX0_signedStep_2 : decode cX0_signedStep 2 = .ok (.l2i, 1) := by decide +kernel
theorem dX0_signedStep_3 : decode cX0_signedStep 3 = .ok (.i2b, 1) := by decide +kernel
theorem dX0_signedStep_4 : decode cX0_signedStep 4 = .ok (.i2l, 1) := by decide +kernel
theorem dX0_signedStep_5 : decode cX0_signedStep 5 = .ok (.lcmp, 1) := by decide +kernel
theorem dX0_signedStep_6 : decode cX0_signedStep 6 = .ok (.ifCond .ne 5, 3) := by decide +kernel
theorem dX0_signedStep_9 : decode cX0_signedStep 9 = .ok (.iconst 0, 1) := by decide +kernel
theorem dX0_signedStep_10 : decode cX0_signedStep 10 = .ok (.ireturn, 1) := by decide +kernel
theorem dX0_signedStep_11 : decode cX0_signedStep 11 = .ok (.lload_n 0, 1) := by decide +kernel
theorem dX0_signedStep_12 : decode cX0_signedStep 12 = .ok (.lload_n 0, 1) := by decide +kernel
theorem dX0_signedStep_13 : decode cX0_signedStep 13 = .ok (.l2i, 1) := by decide +kernel
theorem dX0_signedStep_14 : decode cX0_signedStep 14 = .ok (.i2s, 1) := by decide +kernel
theorem dX0_signedStep_15 : decode cX0_signedStep 15 = .ok (.i2l, 1) := by decide +kernel
theorem dX0_signedStep_16 : decode cX0_signedStep 16 = .ok (.lcmp, 1) := by decide +kernel
theorem dX0_signedStep_17 : decode cX0_signedStep 17 = .ok (.ifCond .ne 5, 3) := by decide +kernel
theorem dX0_signedStep_20 : decode cX0_signedStep 20 = .ok (.iconst 1, 1) := by decide +kernel
theorem dX0_signedStep_21 : decode cX0_signedStep 21 = .ok (.ireturn, 1) := by decide +kernel
theorem dX0_signedStep_22 : decode cX0_signedStep 22 = .ok (.lload_n 0, 1) := by decide +kernel
theorem dX0_signedStep_23 : decode cX0_signedStep 23 = .ok (.lload_n 0, 1) := by decide +kernel
theorem dX0_signedStep_24 : decode cX0_signedStep 24 = .ok (.l2i, 1) := by decide +kernel
theorem dX0_signedStep_25 : decode cX0_signedStep 25 = .ok (.i2l, 1) := by decide +kernel
theorem dX0_signedStep_26 : decode cX0_signedStep 26 = .ok (.lcmp, 1) := by decide +kernel
theorem dX0_signedStep_27 : decode cX0_signedStep 27 = .ok (.ifCond .ne 7, 3) := by decide +kernel
theorem dX0_signedStep_30 : decode cX0_signedStep 30 = .ok (.iconst 2, 1) := by decide +kernel
theorem dX0_signedStep_31 : decode cX0_signedStep 31 = .ok (.goto 4, 3) := by decide +kernel
theorem dX0_signedStep_34 : decode cX0_signedStep 34 = .ok (.iconst 3, 1) := by decide +kernel
theorem dX0_signedStep_35 : decode cX0_signedStep 35 = .ok (.ireturn, 1) := by decide +kernel
theorem dX0_countStep_0 : decode cX0_countStep 0 = .ok (.lload_n 0, 1) := by decide +kernel
theorem dX0_countStep_1 : decode cX0_countStep 1 = .ok (.bipush 16, 2) := by decide +kernel
theorem dX0_countStep_3 : decode cX0_countStep 3 = .ok (.lushr, 1) := by decide +kernel
theorem dX0_countStep_4 : decode cX0_countStep 4 = .ok (.lconst 0, 1) := by decide +kernel
theorem dX0_countStep_5 : decode cX0_countStep 5 = .ok (.lcmp, 1) := by decide +kernel
theorem dX0_countStep_6 : decode cX0_countStep 6 = .ok (.ifCond .ne 7, 3) := by decide +kernel
theorem dX0_countStep_9 : decode cX0_countStep 9 = .ok (.iconst 0, 1) := by decide +kernel
theorem dX0_countStep_10 : decode cX0_countStep 10 = .ok (.goto 4, 3) := by decide +kernel
theorem dX0_countStep_13 : decode cX0_countStep 13 = .ok (.iconst 1, 1) := by decide +kernel
theorem dX0_countStep_14 : decode cX0_countStep 14 = .ok (.ireturn, 1) := by decide +kernel
end
section
theorem dX1_init_0 : decode cX1_init 0 = .ok (.aload_n 0, 1) := by decide +kernel
theorem dX1_init_1 : decode cX1_init 1 = .ok (.invokespecial 1, 3) := by decide +kernel
theorem dX1_init_4 : decode cX1_init 4 = .ok (.aload_n 0, 1) := by decide +kernel
theorem dX1_init_5 : decode cX1_init 5 = .ok (.sipush 4096, 3) := by decide +kernel
theorem dX1_init_8 : decode cX1_init 8 = .ok (.newarray .int, 2) := by decide +kernel
theorem dX1_init_10 : decode cX1_init 10 = .ok (.putfield 7, 3) := by decide +kernel
theorem dX1_init_13 : decode cX1_init 13 = .ok (.aload_n 0, 1) := by decide +kernel
theorem dX1_init_14 : decode cX1_init 14 = .ok (.iconst (-1), 1) := by decide +kernel
theorem dX1_init_15 : decode cX1_init 15 = .ok (.putfield 13, 3) := by decide +kernel
theorem dX1_init_18 : decode cX1_init 18 = .ok (.aload_n 0, 1) := by decide +kernel
theorem dX1_init_19 : decode cX1_init 19 = .ok (.bipush 100, 2) := by decide +kernel
theorem dX1_init_21 : decode cX1_init 21 = .ok (.newarray .long, 2) := by decide +kernel
theorem dX1_init_23 : decode cX1_init 23 = .ok (.putfield 17, 3) := by decide +kernel
theorem dX1_init_26 : decode cX1_init 26 = .ok (.return_, 1) := by decide +kernel
theorem dX1_thrown_0 : decode cX1_thrown 0 = .ok (.aload_n 0, 1) := by decide +kernel
theorem dX1_thrown_1 : decode cX1_thrown 1 = .ok (.getfield 21, 3) := by decide +kernel
theorem dX1_thrown_4 : decode cX1_thrown 4 = .ok (.ireturn, 1) := by decide +kernel
theorem dX1_fails_0 : decode cX1_fails 0 = .ok (.aload_n 0, 1) := by decide +kernel
theorem dX1_fails_1 : decode cX1_fails 1 = .ok (.getfield 21, 3) := by decide +kernel
theorem dX1_fails_4 : decode cX1_fails 4 = .ok (.ifCond .ne 12, 3) := by decide +kernel
theorem dX1_fails_7 : decode cX1_fails 7 = .ok (.iload_n 1, 1) := by decide +kernel
theorem dX1_fails_8 : decode cX1_fails 8 = .ok (.ifCond .eq 8, 3) := by decide +kernel
theorem dX1_fails_11 : decode cX1_fails 11 = .ok (.aload_n 0, 1) := by decide +kernel
theorem dX1_fails_12 : decode cX1_fails 12 = .ok (.iload_n 2, 1) := by decide +kernel
theorem dX1_fails_13 : decode cX1_fails 13 = .ok (.putfield 21, 3) := by decide +kernel
theorem dX1_fails_16 : decode cX1_fails 16 = .ok (.aload_n 0, 1) := by decide +kernel
theorem dX1_fails_17 : decode cX1_fails 17 = .ok (.getfield 21, 3) := by decide +kernel
theorem dX1_fails_20 : decode cX1_fails 20 = .ok (.ifCond .le 7, 3) := by decide +kernel
theorem dX1_fails_23 : decode cX1_fails 23 = .ok (.iconst 1, 1) := by decide +kernel
theorem dX1_fails_24 : decode cX1_fails 24 = .ok (.goto 4, 3) := by decide +kernel
theorem dX1_fails_27 : decode cX1_fails 27 = .ok (.iconst 0, 1) := by decide +kernel
theorem dX1_fails_28 : decode cX1_fails 28 = .ok (.ireturn, 1) := by decide +kernel
theorem dX1_feed_0 : decode cX1_feed 0 = .ok (.aload_n 0, 1) := by decide +kernel
theorem dX1_feed_1 : decode cX1_feed 1 = .ok (.iconst 0, 1) := by decide +kernel
theorem dX1_feed_2 : decode cX1_feed 2 = .ok (.putfield 21, 3) := by decide +kernel
theorem dX1_feed_5 : decode cX1_feed 5 = .ok (.aload_n 0, 1) := by decide +kernel
theorem dX1_feed_6 : decode cX1_feed 6 = .ok (.iload_n 1, 1) := by decide +kernel
theorem dX1_feed_7 : decode cX1_feed 7 = .ok (.ifCond .lt 10, 3) := by decide +kernel
theorem dX1_feed_10 : decode cX1_feed 10 = .ok (.iload_n 1, 1) := by decide +kernel
theorem dX1_feed_11 : decode cX1_feed 11 = .ok (.sipush 255, 3) := by decide +kernel
theorem dX1_feed_14 : decode cX1_feed 14 = .ok (.if_icmp .le 7, 3) := by decide +kernel
theorem dX1_feed_17 : decode cX1_feed 17 = .ok (.iconst 1, 1) := by decide +kernel
theorem dX1_feed_18 : decode cX1_feed 18 = .ok (.goto 4, 3) := by decide +kernel
theorem dX1_feed_21 : decode cX1_feed 21 = .ok (.iconst 0, 1) := by decide +kernel
theorem dX1_feed_22 : decode cX1_feed 22 = .ok (.iconst 1, 1) := by decide +kernel
theorem dX1_feed_23 : decode cX1_feed 23 = .ok (.invokevirtual 24, 3) := by decide +kernel
theorem dX1_feed_26 : decode cX1_feed 26 = .ok (.pop, 1) := by decide +kernel
theorem dX1_feed_27 : decode cX1_feed 27 = .ok (.aload_n 0, 1) := by decide +kernel
theorem dX1_feed_28 : decode cX1_feed 28 = .ok (.aload_n 0, 1) := by decide +kernel
theorem dX1_feed_29 : decode cX1_feed 29 = .ok (.getfield 28, 3) := by decide +kernel
theorem dX1_feed_32 : decode cX1_feed 32 = .ok (.sipush 4096, 3) := by decide +kernel
theorem dX1_feed_35 : decode cX1_feed 35 = .ok (.if_icmp .ne 7, 3) := by decide +kernel
theorem dX1_feed_38 : decode cX1_feed 38 = .ok (.iconst 1, 1) := by decide +kernel
theorem dX1_feed_39 : decode cX1_feed 39 = .ok (.goto 4, 3) := by decide +kernel
theorem dX1_feed_42 : decode cX1_feed 42 = .ok (.iconst 0, 1) := by decide +kernel
theorem dX1_feed_43 : decode cX1_feed 43 = .ok (.iconst 2, 1) := by decide +kernel
theorem dX1_feed_44 : decode cX1_feed 44 = .ok (.invokevirtual 24, 3) := by decide +kernel
theorem dX1_feed_47 : decode cX1_feed 47 = .ok (.ifCond .eq 5, 3) := by decide +kernel
theorem dX1_feed_50 : decode cX1_feed 50 = .ok (.iconst 0, 1) := by decide +kernel
theorem dX1_feed_51 : decode cX1_feed 51 = .ok (.ireturn, 1) := by decide +kernel
theorem dX1_feed_52 : decode cX1_feed 52 = .ok (.aload_n 0, 1) := by decide +kernel
theorem dX1_feed_53 : decode cX1_feed 53 = .ok (.getfield 7, 3) := by decide +kernel
theorem dX1_feed_56 : decode cX1_feed 56 = .ok (.aload_n 0, 1) := by decide +kernel
theorem dX1_feed_57 : decode cX1_feed 57 = .ok (.getfield 28, 3) := by decide +kernel
theorem dX1_feed_60 : decode cX1_feed 60 = .ok (.iload_n 1, 1) := by decide +kernel
theorem dX1_feed_61 : decode cX1_feed 61 = .ok (.iastore, 1) := by decide +kernel
theorem dX1_feed_62 : decode cX1_feed 62 = .ok (.aload_n 0, 1) := by decide +kernel
theorem dX1_feed_63 : decode cX1_feed 63 = .ok (.dup, 1) := by decide +kernel
theorem dX1_feed_64 : decode cX1_feed 64 = .ok (.getfield 28, 3) := by decide +kernel
theorem dX1_feed_67 : decode cX1_feed 67 = .ok (.iconst 1, 1) := by decide +kernel
theorem dX1_feed_68 : decode cX1_feed 68 = .ok (.iadd, 1) := by decide +kernel
theorem dX1_feed_69 : decode cX1_feed 69 = .ok (.putfield 28, 3) := by decide +kernel
theorem dX1_feed_72 : decode cX1_feed 72 = .ok (.aload_n 0, 1) := by decide +kernel
theorem dX1_feed_73 : decode cX1_feed 73 = .ok (.getfield 28, 3) := by decide +kernel
theorem dX1_feed_76 : decode cX1_feed 76 = .ok (.ireturn, 1) := by decide +kernel
theorem dX1_write_0 : decode cX1_write 0 = .ok (.iload_n 3, 1) := by decide +kernel
theorem dX1_write_1 : decode cX1_write 1 = .ok (.iconst 1, 1) := by decide +kernel
theorem dX1_write_2 : decode cX1_write 2 = .ok (.isub, 1) := by decide +kernel
theorem dX1_write_3 : decode cX1_write 3 = .ok (.istore 4, 2) := by decide +kernel
theorem dX1_write_5 : decode cX1_write 5 = .ok (.iload 4, 2) := by decide +kernel
theorem dX1_write_7 : decode cX1_write 7 = .ok (.ifCond .lt 40, 3) := by decide +kernel
theorem dX1_write_10 : decode cX1_write 10 = .ok (.aload_n 0, 1) := by decide +kernel
theorem dX1_write_11 : decode cX1_write 11 = .ok (.getfield 7, 3) := by decide +kernel
theorem dX1_write_14 : decode cX1_write 14 = .ok (.aload_n 0, 1) := by decide +kernel
theorem dX1_write_15 : decode cX1_write 15 = .ok (.getfield 28, 3) := by decide +kernel
theorem dX1_write_18 : decode cX1_write 18 = .ok (.lload_n 1, 1) := by decide +kernel
theorem dX1_write_19 : decode cX1_write 19 = .ok (.bipush 8, 2) := by decide +kernel
theorem dX1_write_21 : decode cX1_write 21 = .ok (.iload 4, 2) := by decide +kernel
theorem dX1_write_23 : decode cX1_write 23 = .ok (.imul, 1) := by decide +kernel
theorem dX1_write_24 : decode cX1_write 24 = .ok (.lshr, 1) := by decide +kernel
theorem dX1_write_25 : decode cX1_write 25 = .ok (.ldc2_w 31, 3) := by decide +kernel
theorem dX1_write_28 : decode cX1_write 28 = .ok (.land, 1) := by decide +kernel
theorem dX1_write_29 : decode cX1_write 29 = .ok (.l2i, 1) := by decide +kernel
theorem dX1_write_30 : decode cX1_write 30 = .ok (.iastore, 1) := by decide +kernel
theorem dX1_write_31 : decode cX1_write 31 = .ok (.aload_n 0, 1) := by decide +kernel
theorem dX1_write_32 : decode cX1_write 32 = .ok (.dup, 1) := by decide +kernel
theorem dX1_write_33 : decode cX1_write 33 = .ok (.getfield 28, 3) := by decide +kernel
theorem dX1_write_36 : decode cX1_write 36 = .ok (.iconst 1, 1) := by decide +kernel
theorem dX1_write_37 : decode cX1_write 37 = .ok (.iadd, 1) := by decide +kernel
theorem dX1_write_38 : decode cX1_write 38 = .ok (.putfield 28, 3) := by decide +kernel
theorem dX1_write_41 : decode cX1_write 41 = .ok (.iinc 4 (-1), 3) := by decide +kernel
theorem dX1_write_44 : decode cX1_write 44 = .ok (.goto (-39), 3) := by decide +kernel
theorem dX1_write_47 : decode cX1_write 47 = .ok (.return_, 1) := by decide +kernel
theorem dX1_put_0 : decode cX1_put 0 = .ok (.aload_n 0, 1) := by decide +kernel
theorem dX1_put_1 : decode cX1_put 1 = .ok (.iconst 0, 1) := by decide +kernel
theorem dX1_put_2 : decode cX1_put 2 = .ok (.putfield 21, 3) := by decide +kernel
theorem dX1_put_5 : decode cX1_put 5 = .ok (.aload_n 0, 1) := by decide +kernel
theorem dX1_put_6 : decode cX1_put 6 = .ok (.iload_n 3, 1) := by decide +kernel
theorem dX1_put_7 : decode cX1_put 7 = .ok (.iconst 1, 1) := by decide +kernel
theorem dX1_put_8 : decode cX1_put 8 = .ok (.if_icmp .lt 9, 3) := by decide +kernel
theorem dX1_put_11 : decode cX1_put 11 = .ok (.iload_n 3, 1) := by decide +kernel
theorem dX1_put_12 : decode cX1_put 12 = .ok (.bipush 8, 2) := by decide +kernel
theorem dX1_put_14 : decode cX1_put 14 = .ok (.if_icmp .le 7, 3) := by decide +kernel
theorem dX1_put_17 : decode cX1_put 17 = .ok (.iconst 1, 1) := by decide +kernel
theorem dX1_put_18 : decode cX1_put 18 = .ok (.goto 4, 3) := by decide +kernel
theorem dX1_put_21 : decode cX1_put 21 = .ok (.iconst 0, 1) := by decide +kernel
theorem dX1_put_22 : decode cX1_put 22 = .ok (.iconst 1, 1) := by decide +kernel
theorem dX1_put_23 : decode cX1_put 23 = .ok (.invokevirtual 24, 3) := by decide +kernel
theorem dX1_put_26 : decode cX1_put 26 = .ok (.pop, 1) := by decide +kernel
theorem dX1_put_27 : decode cX1_put 27 = .ok (.aload_n 0, 1) := by decide +kernel
theorem dX1_put_28 : decode cX1_put 28 = .ok (.aload_n 0, 1) := by decide +kernel
theorem dX1_put_29 : decode cX1_put 29 = .ok (.getfield 28, 3) := by decide +kernel
theorem dX1_put_32 : decode cX1_put 32 = .ok (.iload_n 3, 1) := by decide +kernel
theorem dX1_put_33 : decode cX1_put 33 = .ok (.iadd, 1) := by decide +kernel
theorem dX1_put_34 : decode cX1_put 34 = .ok (.sipush 4096, 3) := by decide +kernel
theorem dX1_put_37 : decode cX1_put 37 = .ok (.if_icmp .le 7, 3) := by decide +kernel
theorem dX1_put_40 : decode cX1_put 40 = .ok (.iconst 1, 1) := by decide +kernel
theorem dX1_put_41 : decode cX1_put 41 = .ok (.goto 4, 3) := by decide +kernel
theorem dX1_put_44 : decode cX1_put 44 = .ok (.iconst 0, 1) := by decide +kernel
theorem dX1_put_45 : decode cX1_put 45 = .ok (.iconst 2, 1) := by decide +kernel
theorem dX1_put_46 : decode cX1_put 46 = .ok (.invokevirtual 24, 3) := by decide +kernel
theorem dX1_put_49 : decode cX1_put 49 = .ok (.ifCond .eq 5, 3) := by decide +kernel
theorem dX1_put_52 : decode cX1_put 52 = .ok (.iconst 0, 1) := by decide +kernel
theorem dX1_put_53 : decode cX1_put 53 = .ok (.ireturn, 1) := by decide +kernel
theorem dX1_put_54 : decode cX1_put 54 = .ok (.aload_n 0, 1) := by decide +kernel
theorem dX1_put_55 : decode cX1_put 55 = .ok (.lload_n 1, 1) := by decide +kernel
theorem dX1_put_56 : decode cX1_put 56 = .ok (.iload_n 3, 1) := by decide +kernel
theorem dX1_put_57 : decode cX1_put 57 = .ok (.invokevirtual 33, 3) := by decide +kernel
theorem dX1_put_60 : decode cX1_put 60 = .ok (.aload_n 0, 1) := by decide +kernel
theorem dX1_put_61 : decode cX1_put 61 = .ok (.getfield 28, 3) := by decide +kernel
theorem dX1_put_64 : decode cX1_put 64 = .ok (.ireturn, 1) := by decide +kernel
theorem dX1_cut_0 : decode cX1_cut 0 = .ok (.aload_n 0, 1) := by decide +kernel
theorem dX1_cut_1 : decode cX1_cut 1 = .ok (.iconst 0, 1) := by decide +kernel
theorem dX1_cut_2 : decode cX1_cut 2 = .ok (.putfield 21, 3) := by decide +kernel
theorem dX1_cut_5 : decode cX1_cut 5 = .ok (.aload_n 0, 1) := by decide +kernel
theorem dX1_cut_6 : decode cX1_cut 6 = .ok (.iload_n 1, 1) := by decide +kernel
theorem dX1_cut_7 : decode cX1_cut 7 = .ok (.ifCond .lt 16, 3) := by decide +kernel
theorem dX1_cut_10 : decode cX1_cut 10 = .ok (.iload_n 1, 1) := by decide +kernel
theorem dX1_cut_11 : decode cX1_cut 11 = .ok (.aload_n 0, 1) := by decide +kernel
theorem dX1_cut_12 : decode cX1_cut 12 = .ok (.getfield 28, 3) := by decide +kernel
theorem dX1_cut_15 : decode cX1_cut 15 = .ok (.aload_n 0, 1) := by decide +kernel
theorem dX1_cut_16 : decode cX1_cut 16 = .ok (.getfield 37, 3) := by decide +kernel
theorem dX1_cut_19 : decode cX1_cut 19 = .ok (.isub, 1) := by decide +kernel
theorem dX1_cut_20 : decode cX1_cut 20 = .ok (.if_icmp .le 7, 3) := by decide +kernel
theorem dX1_cut_23 : decode cX1_cut 23 = .ok (.iconst 1, 1) := by decide +kernel
theorem dX1_cut_24 : decode cX1_cut 24 = .ok (.goto 4, 3) := by decide +kernel
theorem dX1_cut_27 : decode cX1_cut 27 = .ok (.iconst 0, 1) := by decide +kernel
theorem dX1_cut_28 : decode cX1_cut 28 = .ok (.iconst 1, 1) := by decide +kernel
theorem dX1_cut_29 : decode cX1_cut 29 = .ok (.invokevirtual 24, 3) := by decide +kernel
theorem dX1_cut_32 : decode cX1_cut 32 = .ok (.ifCond .eq 5, 3) := by decide +kernel
theorem dX1_cut_35 : decode cX1_cut 35 = .ok (.iconst 0, 1) := by decide +kernel
theorem dX1_cut_36 : decode cX1_cut 36 = .ok (.ireturn, 1) := by decide +kernel
theorem dX1_cut_37 : decode cX1_cut 37 = .ok (.aload_n 0, 1) := by decide +kernel
theorem dX1_cut_38 : decode cX1_cut 38 = .ok (.dup, 1) := by decide +kernel
theorem dX1_cut_39 : decode cX1_cut 39 = .ok (.getfield 28, 3) := by decide +kernel
theorem dX1_cut_42 : decode cX1_cut 42 = .ok (.iload_n 1, 1) := by decide +kernel
theorem dX1_cut_43 : decode cX1_cut 43 = .ok (.isub, 1) := by decide +kernel
theorem dX1_cut_44 : decode cX1_cut 44 = .ok (.putfield 28, 3) := by decide +kernel
theorem dX1_cut_47 : decode cX1_cut 47 = .ok (.aload_n 0, 1) := by decide +kernel
theorem dX1_cut_48 : decode cX1_cut 48 = .ok (.getfield 28, 3) := by decide +kernel
theorem dX1_cut_51 : decode cX1_cut 51 = .ok (.ireturn, 1) := by decide +kernel
theorem dX1_byteAt_0 : decode cX1_byteAt 0 = .ok (.aload_n 0, 1) := by decide +kernel
theorem dX1_byteAt_1 : decode cX1_byteAt 1 = .ok (.iconst 0, 1) := by decide +kernel
theorem dX1_byteAt_2 : decode cX1_byteAt 2 = .ok (.putfield 21, 3) := by decide +kernel
theorem dX1_byteAt_5 : decode cX1_byteAt 5 = .ok (.aload_n 0, 1) := by decide +kernel
theorem dX1_byteAt_6 : decode cX1_byteAt 6 = .ok (.iload_n 1, 1) := by decide +kernel
theorem dX1_byteAt_7 : decode cX1_byteAt 7 = .ok (.ifCond .lt 11, 3) := by decide +kernel
theorem dX1_byteAt_10 : decode cX1_byteAt 10 = .ok (.iload_n 1, 1) := by decide +kernel
theorem dX1_byteAt_11 : decode cX1_byteAt 11 = .ok (.aload_n 0, 1) := by decide +kernel
theorem dX1_byteAt_12 : decode cX1_byteAt 12 = .ok (.getfield 28, 3) := by decide +kernel
theorem dX1_byteAt_15 : decode cX1_byteAt 15 = .ok (.if_icmp .lt 7, 3) := by decide +kernel
theorem dX1_byteAt_18 : decode cX1_byteAt 18 = .ok (.iconst 1, 1) := by decide +kernel
theorem dX1_byteAt_19 : decode cX1_byteAt 19 = .ok (.goto 4, 3) := by decide +kernel
theorem dX1_byteAt_22 : decode cX1_byteAt 22 = .ok (.iconst 0, 1) := by decide +kernel
theorem dX1_byteAt_23 : decode cX1_byteAt 23 = .ok (.iconst 1, 1) := by decide +kernel
theorem dX1_byteAt_24 : decode cX1_byteAt 24 = .ok (.invokevirtual 24, 3) := by decide +kernel
theorem dX1_byteAt_27 : decode cX1_byteAt 27 = .ok (.ifCond .eq 7, 3) := by decide +kernel
theorem dX1_byteAt_30 : decode cX1_byteAt 30 = .ok (.iconst 0, 1) := by decide +kernel
theorem dX1_byteAt_31 : decode cX1_byteAt 31 = .ok (.goto 9, 3) := by decide +kernel
theorem dX1_byteAt_34 : decode cX1_byteAt 34 = .ok (.aload_n 0, 1) := by decide +kernel
theorem dX1_byteAt_35 : decode cX1_byteAt 35 = .ok (.getfield 7, 3) := by decide +kernel
theorem dX1_byteAt_38 : decode cX1_byteAt 38 = .ok (.iload_n 1, 1) := by decide +kernel
theorem dX1_byteAt_39 : decode cX1_byteAt 39 = .ok (.iaload, 1) := by decide +kernel
theorem dX1_byteAt_40 : decode cX1_byteAt 40 = .ok (.ireturn, 1) := by decide +kernel
theorem dX1_numberAt_0 : decode cX1_numberAt 0 = .ok (.lconst 0, 1) := by decide +kernel
theorem dX1_numberAt_1 : decode cX1_numberAt 1 = .ok (.lstore_n 3, 1) := by decide +kernel
theorem dX1_numberAt_2 : decode cX1_numberAt 2 = .ok (.iconst 0, 1) := by decide +kernel
theorem dX1_numberAt_3 : decode cX1_numberAt 3 = .ok (.istore 5, 2) := by decide +kernel
theorem dX1_numberAt_5 : decode cX1_numberAt 5 = .ok (.iload 5, 2) := by decide +kernel
theorem dX1_numberAt_7 : decode cX1_numberAt 7 = .ok (.iload_n 2, 1) := by decide +kernel
theorem dX1_numberAt_8 : decode cX1_numberAt 8 = .ok (.if_icmp .ge 25, 3) := by decide +kernel
theorem dX1_numberAt_11 : decode cX1_numberAt 11 = .ok (.lload_n 3, 1) := by decide +kernel
theorem dX1_numberAt_12 : decode cX1_numberAt 12 = .ok (.bipush 8, 2) := by decide +kernel
theorem dX1_numberAt_14 : decode cX1_numberAt 14 = .ok (.lshl, 1) := by decide +kernel
theorem dX1_numberAt_15 : decode cX1_numberAt 15 = .ok (.aload_n 0, 1) := by decide +kernel
theorem dX1_numberAt_16 : decode cX1_numberAt 16 = .ok (.getfield 7, 3) := by decide +kernel
theorem dX1_numberAt_19 : decode cX1_numberAt 19 = .ok (.iload_n 1, 1) := by decide +kernel
theorem dX1_numberAt_20 : decode cX1_numberAt 20 = .ok (.iload 5, 2) := by decide +kernel
theorem dX1_numberAt_22 : decode cX1_numberAt 22 = .ok (.iadd, 1) := by decide +kernel
theorem dX1_numberAt_23 : decode cX1_numberAt 23 = .ok (.iaload, 1) := by decide +kernel
theorem dX1_numberAt_24 : decode cX1_numberAt 24 = .ok (.i2l, 1) := by decide +kernel
theorem dX1_numberAt_25 : decode cX1_numberAt 25 = .ok (.lor, 1) := by decide +kernel
theorem dX1_numberAt_26 : decode cX1_numberAt 26 = .ok (.lstore_n 3, 1) := by decide +kernel
theorem dX1_numberAt_27 : decode cX1_numberAt 27 = .ok (.iinc 5 1, 3) := by decide +kernel
theorem dX1_numberAt_30 : decode cX1_numberAt 30 = .ok (.goto (-25), 3) := by decide +kernel
theorem dX1_numberAt_33 : decode cX1_numberAt 33 = .ok (.lload_n 3, 1) := by decide +kernel
theorem dX1_numberAt_34 : decode cX1_numberAt 34 = .ok (.lreturn, 1) := by decide +kernel
theorem dX1_widthOf_0 : decode cX1_widthOf 0 = .ok (.iload_n 0, 1) := by decide +kernel
theorem dX1_widthOf_1 : decode cX1_widthOf 1 = .ok (.tableswitch 136 196 223 #[127, 129, 131, 127, 129, 131, 131, 133, 127, 129, 131, 133, 127, 129, 131, 133, 136, 136, 136, 136, 136, 127, 129, 131, 129, 131, 129, 131], 127) := by decide +kernel
theorem dX1_widthOf_128 : decode cX1_widthOf 128 = .ok (.iconst 1, 1) := by decide +kernel
theorem dX1_widthOf_129 : decode cX1_widthOf 129 = .ok (.ireturn, 1) := by decide +kernel
theorem dX1_widthOf_130 : decode cX1_widthOf 130 = .ok (.iconst 2, 1) := by decide +kernel
theorem dX1_widthOf_131 : decode cX1_widthOf 131 = .ok (.ireturn, 1) := by decide +kernel
theorem dX1_widthOf_132 : decode cX1_widthOf 132 = .ok (.iconst 4, 1) := by decide +kernel
theorem dX1_widthOf_133 : decode cX1_widthOf 133 = .ok (.ireturn, 1) := by decide +kernel
theorem dX1_widthOf_134 : decode cX1_widthOf 134 = .ok (.bipush 8, 2) := by decide +kernel
theorem dX1_widthOf_136 : decode cX1_widthOf 136 = .ok (.ireturn, 1) := by decide +kernel
theorem dX1_widthOf_137 : decode cX1_widthOf 137 = .ok (.iconst 0, 1) := by decide +kernel
theorem dX1_widthOf_138 : decode cX1_widthOf 138 = .ok (.ireturn, 1) := by decide +kernel
theorem dX1_kindOf_0 : decode cX1_kindOf 0 = .ok (.iload_n 0, 1) := by decide +kernel
theorem dX1_kindOf_1 : decode cX1_kindOf 1 = .ok (.sipush 128, 3) := by decide +kernel
theorem dX1_kindOf_4 : decode cX1_kindOf 4 = .ok (.if_icmp .ge 5, 3) := by decide +kernel
theorem dX1_kindOf_7 : decode cX1_kindOf 7 = .ok (.iconst 4, 1) := by decide +kernel
theorem dX1_kindOf_8 : decode cX1_kindOf 8 = .ok (.ireturn, 1) := by decide +kernel
theorem dX1_kindOf_9 : decode cX1_kindOf 9 = .ok (.iload_n 0, 1) := by decide +kernel
theorem dX1_kindOf_10 : decode cX1_kindOf 10 = .ok (.sipush 144, 3) := by decide +kernel
theorem dX1_kindOf_13 : decode cX1_kindOf 13 = .ok (.if_icmp .ge 6, 3) := by decide +kernel
theorem dX1_kindOf_16 : decode cX1_kindOf 16 = .ok (.bipush 11, 2) := by decide +kernel
theorem dX1_kindOf_18 : decode cX1_kindOf 18 = .ok (.ireturn, 1) := by decide +kernel
theorem dX1_kindOf_19 : decode cX1_kindOf 19 = .ok (.iload_n 0, 1) := by decide +kernel
theorem dX1_kindOf_20 : decode cX1_kindOf 20 = .ok (.sipush 160, 3) := by decide +kernel
theorem dX1_kindOf_23 : decode cX1_kindOf 23 = .ok (.if_icmp .ge 6, 3) := by decide +kernel
theorem dX1_kindOf_26 : decode cX1_kindOf 26 = .ok (.bipush 10, 2) := by decide +kernel
theorem dX1_kindOf_28 : decode cX1_kindOf 28 = .ok (.ireturn, 1) := by decide +kernel
theorem dX1_kindOf_29 : decode cX1_kindOf 29 = .ok (.iload_n 0, 1) := by decide +kernel
theorem dX1_kindOf_30 : decode cX1_kindOf 30 = .ok (.sipush 192, 3) := by decide +kernel
theorem dX1_kindOf_33 : decode cX1_kindOf 33 = .ok (.if_icmp .ge 6, 3) := by decide +kernel
theorem dX1_kindOf_36 : decode cX1_kindOf 36 = .ok (.bipush 8, 2) := by decide +kernel
theorem dX1_kindOf_38 : decode cX1_kindOf 38 = .ok (.ireturn, 1) := by decide +kernel
theorem dX1_kindOf_39 : decode cX1_kindOf 39 = .ok (.iload_n 0, 1) := by decide +kernel
theorem dX1_kindOf_40 : decode cX1_kindOf 40 = .ok (.sipush 223, 3) := by decide +kernel
theorem dX1_kindOf_43 : decode cX1_kindOf 43 = .ok (.if_icmp .le 5, 3) := by decide +kernel
theorem dX1_kindOf_46 : decode cX1_kindOf 46 = .ok (.iconst 5, 1) := by decide +kernel
theorem dX1_kindOf_47 : decode cX1_kindOf 47 = .ok (.ireturn, 1) := by decide +kernel
theorem dX1_kindOf_48 : decode cX1_kindOf 48 = .ok (.iload_n 0, 1) := by decide +kernel
theorem dX1_kindOf_49 : decode cX1_kindOf 49 = .ok (.tableswitch 171 192 223 #[143, 171, 145, 147, 149, 149, 149, 171, 171, 171, 152, 155, 158, 158, 158, 158, 160, 160, 160, 160, 171, 171, 171, 171, 171, 162, 162, 162, 165, 165, 168, 168], 143) := by decide +kernel
theorem dX1_kindOf_192 : decode cX1_kindOf 192 = .ok (.iconst 1, 1) := by decide +kernel
theorem dX1_kindOf_193 : decode cX1_kindOf 193 = .ok (.ireturn, 1) := by decide +kernel
theorem dX1_kindOf_194 : decode cX1_kindOf 194 = .ok (.iconst 2, 1) := by decide +kernel
theorem dX1_kindOf_195 : decode cX1_kindOf 195 = .ok (.ireturn, 1) := by decide +kernel
theorem dX1_kindOf_196 : decode cX1_kindOf 196 = .ok (.iconst 3, 1) := by decide +kernel
theorem dX1_kindOf_197 : decode cX1_kindOf 197 = .ok (.ireturn, 1) := by decide +kernel
theorem dX1_kindOf_198 : decode cX1_kindOf 198 = .ok (.bipush 9, 2) := by decide +kernel
theorem dX1_kindOf_200 : decode cX1_kindOf 200 = .ok (.ireturn, 1) := by decide +kernel
theorem dX1_kindOf_201 : decode cX1_kindOf 201 = .ok (.bipush 6, 2) := by decide +kernel
theorem dX1_kindOf_203 : decode cX1_kindOf 203 = .ok (.ireturn, 1) := by decide +kernel
theorem dX1_kindOf_204 : decode cX1_kindOf 204 = .ok (.bipush 7, 2) := by decide +kernel
theorem dX1_kindOf_206 : decode cX1_kindOf 206 = .ok (.ireturn, 1) := by decide +kernel
theorem dX1_kindOf_207 : decode cX1_kindOf 207 = .ok (.iconst 4, 1) := by decide +kernel
theorem dX1_kindOf_208 : decode cX1_kindOf 208 = .ok (.ireturn, 1) := by decide +kernel
theorem dX1_kindOf_209 : decode cX1_kindOf 209 = .ok (.iconst 5, 1) := by decide +kernel
theorem dX1_kindOf_210 : decode cX1_kindOf 210 = .ok (.ireturn, 1) := by decide +kernel
theorem dX1_kindOf_211 : decode cX1_kindOf 211 = .ok (.bipush 8, 2) := by decide +kernel
theorem dX1_kindOf_213 : decode cX1_kindOf 213 = .ok (.ireturn, 1) := by decide +kernel
theorem dX1_kindOf_214 : decode cX1_kindOf 214 = .ok (.bipush 10, 2) := by decide +kernel
theorem dX1_kindOf_216 : decode cX1_kindOf 216 = .ok (.ireturn, 1) := by decide +kernel
theorem dX1_kindOf_217 : decode cX1_kindOf 217 = .ok (.bipush 11, 2) := by decide +kernel
theorem dX1_kindOf_219 : decode cX1_kindOf 219 = .ok (.ireturn, 1) := by decide +kernel
theorem dX1_kindOf_220 : decode cX1_kindOf 220 = .ok (.bipush 12, 2) := by decide +kernel
theorem dX1_kindOf_222 : decode cX1_kindOf 222 = .ok (.ireturn, 1) := by decide +kernel
theorem dX1_ownNumber_0 : decode cX1_ownNumber 0 = .ok (.iload_n 0, 1) := by decide +kernel
theorem dX1_ownNumber_1 : decode cX1_ownNumber 1 = .ok (.sipush 128, 3) := by decide +kernel
theorem dX1_ownNumber_4 : decode cX1_ownNumber 4 = .ok (.if_icmp .ge 6, 3) := by decide +kernel
theorem dX1_ownNumber_7 : decode cX1_ownNumber 7 = .ok (.iload_n 0, 1) := by decide +kernel
theorem dX1_ownNumber_8 : decode cX1_ownNumber 8 = .ok (.i2l, 1) := by decide +kernel
theorem dX1_ownNumber_9 : decode cX1_ownNumber 9 = .ok (.lreturn, 1) := by decide +kernel
theorem dX1_ownNumber_10 : decode cX1_ownNumber 10 = .ok (.iload_n 0, 1) := by decide +kernel
theorem dX1_ownNumber_11 : decode cX1_ownNumber 11 = .ok (.sipush 144, 3) := by decide +kernel
theorem dX1_ownNumber_14 : decode cX1_ownNumber 14 = .ok (.if_icmp .ge 10, 3) := by decide +kernel
theorem dX1_ownNumber_17 : decode cX1_ownNumber 17 = .ok (.iload_n 0, 1) := by decide +kernel
theorem dX1_ownNumber_18 : decode cX1_ownNumber 18 = .ok (.sipush 128, 3) := by decide +kernel
theorem dX1_ownNumber_21 : decode cX1_ownNumber 21 = .ok (.isub, 1) := by decide +kernel
theorem dX1_ownNumber_22 : decode cX1_ownNumber 22 = .ok (.i2l, 1) := by decide +kernel
theorem dX1_ownNumber_23 : decode cX1_ownNumber 23 = .ok (.lreturn, 1) := by decide +kernel
theorem dX1_ownNumber_24 : decode cX1_ownNumber 24 = .ok (.iload_n 0, 1) := by decide +kernel
theorem dX1_ownNumber_25 : decode cX1_ownNumber 25 = .ok (.sipush 160, 3) := by decide +kernel
theorem dX1_ownNumber_28 : decode cX1_ownNumber 28 = .ok (.if_icmp .ge 10, 3) := by decide +kernel
theorem dX1_ownNumber_31 : decode cX1_ownNumber 31 = .ok (.iload_n 0, 1) := by decide +kernel
theorem dX1_ownNumber_32 : decode cX1_ownNumber 32 = .ok (.sipush 144, 3) := by decide +kernel
theorem dX1_ownNumber_35 : decode cX1_ownNumber 35 = .ok (.isub, 1) := by decide +kernel
theorem dX1_ownNumber_36 : decode cX1_ownNumber 36 = .ok (.i2l, 1) := by decide +kernel
theorem dX1_ownNumber_37 : decode cX1_ownNumber 37 = .ok (.lreturn, 1) := by decide +kernel
theorem dX1_ownNumber_38 : decode cX1_ownNumber 38 = .ok (.iload_n 0, 1) := by decide +kernel
theorem dX1_ownNumber_39 : decode cX1_ownNumber 39 = .ok (.sipush 192, 3) := by decide +kernel
theorem dX1_ownNumber_42 : decode cX1_ownNumber 42 = .ok (.if_icmp .ge 10, 3) := by decide +kernel
theorem dX1_ownNumber_45 : decode cX1_ownNumber 45 = .ok (.iload_n 0, 1) := by decide +kernel
theorem dX1_ownNumber_46 : decode cX1_ownNumber 46 = .ok (.sipush 160, 3) := by decide +kernel
theorem dX1_ownNumber_49 : decode cX1_ownNumber 49 = .ok (.isub, 1) := by decide +kernel
theorem dX1_ownNumber_50 : decode cX1_ownNumber 50 = .ok (.i2l, 1) := by decide +kernel
theorem dX1_ownNumber_51 : decode cX1_ownNumber 51 = .ok (.lreturn, 1) := by decide +kernel
theorem dX1_ownNumber_52 : decode cX1_ownNumber 52 = .ok (.iload_n 0, 1) := by decide +kernel
theorem dX1_ownNumber_53 : decode cX1_ownNumber 53 = .ok (.sipush 223, 3) := by decide +kernel
theorem dX1_ownNumber_56 : decode cX1_ownNumber 56 = .ok (.if_icmp .le 12, 3) := by decide +kernel
theorem dX1_ownNumber_59 : decode cX1_ownNumber 59 = .ok (.iload_n 0, 1) := by decide +kernel
theorem dX1_ownNumber_60 : decode cX1_ownNumber 60 = .ok (.sipush 256, 3) := by decide +kernel
theorem dX1_ownNumber_63 : decode cX1_ownNumber 63 = .ok (.isub, 1) := by decide +kernel
theorem dX1_ownNumber_64 : decode cX1_ownNumber 64 = .ok (.i2l, 1) := by decide +kernel
theorem dX1_ownNumber_65 : decode cX1_ownNumber 65 = .ok (.goto 28, 3) := by decide +kernel
theorem dX1_ownNumber_68 : decode cX1_ownNumber 68 = .ok (.iload_n 0, 1) := by decide +kernel
theorem dX1_ownNumber_69 : decode cX1_ownNumber 69 = .ok (.sipush 211, 3) := by decide +kernel
theorem dX1_ownNumber_72 : decode cX1_ownNumber 72 = .ok (.if_icmp .le 20, 3) := by decide +kernel
theorem dX1_ownNumber_75 : decode cX1_ownNumber 75 = .ok (.iload_n 0, 1) := by decide +kernel
theorem dX1_ownNumber_76 : decode cX1_ownNumber 76 = .ok (.sipush 217, 3) := by decide +kernel
theorem dX1_ownNumber_79 : decode cX1_ownNumber 79 = .ok (.if_icmp .ge 13, 3) := by decide +kernel
theorem dX1_ownNumber_82 : decode cX1_ownNumber 82 = .ok (.lconst 1, 1) := by decide +kernel
theorem dX1_ownNumber_83 : decode cX1_ownNumber 83 = .ok (.iload_n 0, 1) := by decide +kernel
theorem dX1_ownNumber_84 : decode cX1_ownNumber 84 = .ok (.sipush 212, 3) := by decide +kernel
theorem dX1_ownNumber_87 : decode cX1_ownNumber 87 = .ok (.isub, 1) := by decide +kernel
theorem dX1_ownNumber_88 : decode cX1_ownNumber 88 = .ok (.lshl, 1) := by decide +kernel
theorem dX1_ownNumber_89 : decode cX1_ownNumber 89 = .ok (.goto 4, 3) := by decide +kernel
theorem dX1_ownNumber_92 : decode cX1_ownNumber 92 = .ok (.lconst 0, 1) := by decide +kernel
theorem dX1_ownNumber_93 : decode cX1_ownNumber 93 = .ok (.lreturn, 1) := by decide +kernel
theorem dX1_look_0 : decode cX1_look 0 = .ok (.iload_n 1, 1) := by decide +kernel
theorem dX1_look_1 : decode cX1_look 1 = .ok (.aload_n 0, 1) := by decide +kernel
theorem dX1_look_2 : decode cX1_look 2 = .ok (.getfield 28, 3) := by decide +kernel
theorem dX1_look_5 : decode cX1_look 5 = .ok (.if_icmp .lt 6, 3) := by decide +kernel
theorem dX1_look_8 : decode cX1_look 8 = .ok (.bipush (-2), 2) := by decide +kernel
theorem dX1_look_10 : decode cX1_look 10 = .ok (.ireturn, 1) := by decide +kernel
theorem dX1_look_11 : decode cX1_look 11 = .ok (.aload_n 0, 1) := by decide +kernel
theorem dX1_look_12 : decode cX1_look 12 = .ok (.getfield 7, 3) := by decide +kernel
theorem dX1_look_15 : decode cX1_look 15 = .ok (.iload_n 1, 1) := by decide +kernel
theorem dX1_look_16 : decode cX1_look 16 = .ok (.iaload, 1) := by decide +kernel
theorem dX1_look_17 : decode cX1_look 17 = .ok (.istore_n 2, 1) := by decide +kernel
theorem dX1_look_18 : decode cX1_look 18 = .ok (.iload_n 2, 1) := by decide +kernel
theorem dX1_look_19 : decode cX1_look 19 = .ok (.sipush 193, 3) := by decide +kernel
theorem dX1_look_22 : decode cX1_look 22 = .ok (.if_icmp .ne 6, 3) := by decide +kernel
theorem dX1_look_25 : decode cX1_look 25 = .ok (.bipush (-3), 2) := by decide +kernel
theorem dX1_look_27 : decode cX1_look 27 = .ok (.ireturn, 1) := by decide +kernel
theorem dX1_look_28 : decode cX1_look 28 = .ok (.iload_n 2, 1) := by decide +kernel
theorem dX1_look_29 : decode cX1_look 29 = .ok (.invokestatic 40, 3) := by decide +kernel
theorem dX1_look_32 : decode cX1_look 32 = .ok (.istore_n 3, 1) := by decide +kernel
theorem dX1_look_33 : decode cX1_look 33 = .ok (.aload_n 0, 1) := by decide +kernel
theorem dX1_look_34 : decode cX1_look 34 = .ok (.iload_n 2, 1) := by decide +kernel
theorem dX1_look_35 : decode cX1_look 35 = .ok (.invokestatic 44, 3) := by decide +kernel
theorem dX1_look_38 : decode cX1_look 38 = .ok (.putfield 47, 3) := by decide +kernel
theorem dX1_look_41 : decode cX1_look 41 = .ok (.aload_n 0, 1) := by decide +kernel
theorem dX1_look_42 : decode cX1_look 42 = .ok (.iconst 1, 1) := by decide +kernel
theorem dX1_look_43 : decode cX1_look 43 = .ok (.iload_n 3, 1) := by decide +kernel
theorem dX1_look_44 : decode cX1_look 44 = .ok (.iadd, 1) := by decide +kernel
theorem dX1_look_45 : decode cX1_look 45 = .ok (.aload_n 0, 1) := by decide +kernel
theorem dX1_look_46 : decode cX1_look 46 = .ok (.getfield 47, 3) := by decide +kernel
theorem dX1_look_49 : decode cX1_look 49 = .ok (.bipush 12, 2) := by decide +kernel
theorem dX1_look_51 : decode cX1_look 51 = .ok (.if_icmp .ne 7, 3) := by decide +kernel
theorem dX1_look_54 : decode cX1_look 54 = .ok (.iconst 1, 1) := by decide +kernel
theorem dX1_look_55 : decode cX1_look 55 = .ok (.goto 4, 3) := by decide +kernel
theorem dX1_look_58 : decode cX1_look 58 = .ok (.iconst 0, 1) := by decide +kernel
theorem dX1_look_59 : decode cX1_look 59 = .ok (.iadd, 1) := by decide +kernel
theorem dX1_look_60 : decode cX1_look 60 = .ok (.putfield 50, 3) := by decide +kernel
theorem dX1_look_63 : decode cX1_look 63 = .ok (.iload_n 1, 1) := by decide +kernel
theorem dX1_look_64 : decode cX1_look 64 = .ok (.aload_n 0, 1) := by decide +kernel
theorem dX1_look_65 : decode cX1_look 65 = .ok (.getfield 50, 3) := by decide +kernel
theorem dX1_look_68 : decode cX1_look 68 = .ok (.iadd, 1) := by decide +kernel
theorem dX1_look_69 : decode cX1_look 69 = .ok (.aload_n 0, 1) := by decide +kernel
theorem dX1_look_70 : decode cX1_look 70 = .ok (.getfield 28, 3) := by decide +kernel
theorem dX1_look_73 : decode cX1_look 73 = .ok (.if_icmp .le 6, 3) := by decide +kernel
theorem dX1_look_76 : decode cX1_look 76 = .ok (.bipush (-2), 2) := by decide +kernel
theorem dX1_look_78 : decode cX1_look 78 = .ok (.ireturn, 1) := by decide +kernel
theorem dX1_look_79 : decode cX1_look 79 = .ok (.aload_n 0, 1) := by decide +kernel
theorem dX1_look_80 : decode cX1_look 80 = .ok (.iload_n 3, 1) := by decide +kernel
theorem dX1_look_81 : decode cX1_look 81 = .ok (.ifCond .ne 10, 3) := by decide +kernel
theorem dX1_look_84 : decode cX1_look 84 = .ok (.iload_n 2, 1) := by decide +kernel
theorem dX1_look_85 : decode cX1_look 85 = .ok (.invokestatic 53, 3) := by decide +kernel
theorem dX1_look_88 : decode cX1_look 88 = .ok (.goto 11, 3) := by decide +kernel
theorem dX1_look_91 : decode cX1_look 91 = .ok (.aload_n 0, 1) := by decide +kernel
theorem dX1_look_92 : decode cX1_look 92 = .ok (.iload_n 1, 1) := by decide +kernel
theorem dX1_look_93 : decode cX1_look 93 = .ok (.iconst 1, 1) := by decide +kernel
theorem dX1_look_94 : decode cX1_look 94 = .ok (.iadd, 1) := by decide +kernel
theorem dX1_look_95 : decode cX1_look 95 = .ok (.iload_n 3, 1) := by decide +kernel
theorem dX1_look_96 : decode cX1_look 96 = .ok (.invokevirtual 57, 3) := by decide +kernel
theorem dX1_look_99 : decode cX1_look 99 = .ok (.putfield 61, 3) := by decide +kernel
theorem dX1_look_102 : decode cX1_look 102 = .ok (.aload_n 0, 1) := by decide +kernel
theorem dX1_look_103 : decode cX1_look 103 = .ok (.getfield 47, 3) := by decide +kernel
theorem dX1_look_106 : decode cX1_look 106 = .ok (.iconst 5, 1) := by decide +kernel
theorem dX1_look_107 : decode cX1_look 107 = .ok (.if_icmp .ne 31, 3) := by decide +kernel
theorem dX1_look_110 : decode cX1_look 110 = .ok (.iload_n 3, 1) := by decide +kernel
theorem dX1_look_111 : decode cX1_look 111 = .ok (.ifCond .le 27, 3) := by decide +kernel
theorem dX1_look_114 : decode cX1_look 114 = .ok (.aload_n 0, 1) := by decide +kernel
theorem dX1_look_115 : decode cX1_look 115 = .ok (.aload_n 0, 1) := by decide +kernel
theorem dX1_look_116 : decode cX1_look 116 = .ok (.getfield 61, 3) := by decide +kernel
theorem dX1_look_119 : decode cX1_look 119 = .ok (.bipush 64, 2) := by decide +kernel
theorem dX1_look_121 : decode cX1_look 121 = .ok (.bipush 8, 2) := by decide +kernel
theorem dX1_look_123 : decode cX1_look 123 = .ok (.iload_n 3, 1) := by decide +kernel
theorem dX1_look_124 : decode cX1_look 124 = .ok (.imul, 1) := by decide +kernel
theorem dX1_look_125 : decode cX1_look 125 = .ok (.isub, 1) := by decide +kernel
theorem dX1_look_126 : decode cX1_look 126 = .ok (.lshl, 1) := by decide +kernel
theorem dX1_look_127 : decode cX1_look 127 = .ok (.bipush 64, 2) := by decide +kernel
theorem dX1_look_129 : decode cX1_look 129 = .ok (.bipush 8, 2) := by decide +kernel
theorem dX1_look_131 : decode cX1_look 131 = .ok (.iload_n 3, 1) := by decide +kernel
theorem dX1_look_132 : decode cX1_look 132 = .ok (.imul, 1) := by decide +kernel
theorem dX1_look_133 : decode cX1_look 133 = .ok (.isub, 1) := by decide +kernel
theorem dX1_look_134 : decode cX1_look 134 = .ok (.lshr, 1) := by decide +kernel
theorem dX1_look_135 : decode cX1_look 135 = .ok (.putfield 61, 3) := by decide +kernel
theorem dX1_look_138 : decode cX1_look 138 = .ok (.aload_n 0, 1) := by decide +kernel
theorem dX1_look_139 : decode cX1_look 139 = .ok (.getfield 47, 3) := by decide +kernel
theorem dX1_look_142 : decode cX1_look 142 = .ok (.bipush 12, 2) := by decide +kernel
theorem dX1_look_144 : decode cX1_look 144 = .ok (.if_icmp .ne 19, 3) := by decide +kernel
theorem dX1_look_147 : decode cX1_look 147 = .ok (.aload_n 0, 1) := by decide +kernel
theorem dX1_look_148 : decode cX1_look 148 = .ok (.getfield 7, 3) := by decide +kernel
theorem dX1_look_151 : decode cX1_look 151 = .ok (.iload_n 1, 1) := by decide +kernel
theorem dX1_look_152 : decode cX1_look 152 = .ok (.aload_n 0, 1) := by decide +kernel
theorem dX1_look_153 : decode cX1_look 153 = .ok (.getfield 50, 3) := by decide +kernel
theorem dX1_look_156 : decode cX1_look 156 = .ok (.iadd, 1) := by decide +kernel
theorem dX1_look_157 : decode cX1_look 157 = .ok (.iconst 1, 1) := by decide +kernel
theorem dX1_look_158 : decode cX1_look 158 = .ok (.isub, 1) := by decide +kernel
theorem dX1_look_159 : decode cX1_look 159 = .ok (.iaload, 1) := by decide +kernel
theorem dX1_look_160 : decode cX1_look 160 = .ok (.goto 4, 3) := by decide +kernel
theorem dX1_look_163 : decode cX1_look 163 = .ok (.iconst 0, 1) := by decide +kernel
theorem dX1_look_164 : decode cX1_look 164 = .ok (.istore 4, 2) := by decide +kernel
theorem dX1_look_166 : decode cX1_look 166 = .ok (.aload_n 0, 1) := by decide +kernel
theorem dX1_look_167 : decode cX1_look 167 = .ok (.iload 4, 2) := by decide +kernel
theorem dX1_look_169 : decode cX1_look 169 = .ok (.bipush 127, 2) := by decide +kernel
theorem dX1_look_171 : decode cX1_look 171 = .ok (.if_icmp .le 12, 3) := by decide +kernel
theorem dX1_look_174 : decode cX1_look 174 = .ok (.iload 4, 2) := by decide +kernel
theorem dX1_look_176 : decode cX1_look 176 = .ok (.sipush 256, 3) := by decide +kernel
theorem dX1_look_179 : decode cX1_look 179 = .ok (.isub, 1) := by decide +kernel
theorem dX1_look_180 : decode cX1_look 180 = .ok (.goto 5, 3) := by decide +kernel
theorem dX1_look_183 : decode cX1_look 183 = .ok (.iload 4, 2) := by decide +kernel
theorem dX1_look_185 : decode cX1_look 185 = .ok (.putfield 65, 3) := by decide +kernel
theorem dX1_look_188 : decode cX1_look 188 = .ok (.aload_n 0, 1) := by decide +kernel
theorem dX1_look_189 : decode cX1_look 189 = .ok (.lconst 0, 1) := by decide +kernel
theorem dX1_look_190 : decode cX1_look 190 = .ok (.putfield 68, 3) := by decide +kernel
theorem dX1_look_193 : decode cX1_look 193 = .ok (.aload_n 0, 1) := by decide +kernel
theorem dX1_look_194 : decode cX1_look 194 = .ok (.lconst 0, 1) := by decide +kernel
theorem dX1_look_195 : decode cX1_look 195 = .ok (.putfield 71, 3) := by decide +kernel
theorem dX1_look_198 : decode cX1_look 198 = .ok (.aload_n 0, 1) := by decide +kernel
theorem dX1_look_199 : decode cX1_look 199 = .ok (.getfield 47, 3) := by decide +kernel
theorem dX1_look_202 : decode cX1_look 202 = .ok (.bipush 7, 2) := by decide +kernel
theorem dX1_look_204 : decode cX1_look 204 = .ok (.if_icmp .le 17, 3) := by decide +kernel
theorem dX1_look_207 : decode cX1_look 207 = .ok (.aload_n 0, 1) := by decide +kernel
theorem dX1_look_208 : decode cX1_look 208 = .ok (.getfield 61, 3) := by decide +kernel
theorem dX1_look_211 : decode cX1_look 211 = .ok (.ldc2_w 74, 3) := by decide +kernel
theorem dX1_look_214 : decode cX1_look 214 = .ok (.lcmp, 1) := by decide +kernel
theorem dX1_look_215 : decode cX1_look 215 = .ok (.ifCond .le 6, 3) := by decide +kernel
theorem dX1_look_218 : decode cX1_look 218 = .ok (.bipush (-4), 2) := by decide +kernel
theorem dX1_look_220 : decode cX1_look 220 = .ok (.ireturn, 1) := by decide +kernel
theorem dX1_look_221 : decode cX1_look 221 = .ok (.aload_n 0, 1) := by decide +kernel
theorem dX1_look_222 : decode cX1_look 222 = .ok (.getfield 47, 3) := by decide +kernel
theorem dX1_look_225 : decode cX1_look 225 = .ok (.bipush 8, 2) := by decide +kernel
theorem dX1_look_227 : decode cX1_look 227 = .ok (.if_icmp .eq 21, 3) := by decide +kernel
theorem dX1_look_230 : decode cX1_look 230 = .ok (.aload_n 0, 1) := by decide +kernel
theorem dX1_look_231 : decode cX1_look 231 = .ok (.getfield 47, 3) := by decide +kernel
theorem dX1_look_234 : decode cX1_look 234 = .ok (.bipush 9, 2) := by decide +kernel
theorem dX1_look_236 : decode cX1_look 236 = .ok (.if_icmp .eq 12, 3) := by decide +kernel
theorem dX1_look_239 : decode cX1_look 239 = .ok (.aload_n 0, 1) := by decide +kernel
theorem dX1_look_240 : decode cX1_look 240 = .ok (.getfield 47, 3) := by decide +kernel
theorem dX1_look_243 : decode cX1_look 243 = .ok (.bipush 12, 2) := by decide +kernel
theorem dX1_look_245 : decode cX1_look 245 = .ok (.if_icmp .ne 11, 3) := by decide +kernel
theorem dX1_look_248 : decode cX1_look 248 = .ok (.aload_n 0, 1) := by decide +kernel
theorem dX1_look_249 : decode cX1_look 249 = .ok (.aload_n 0, 1) := by decide +kernel
theorem dX1_look_250 : decode cX1_look 250 = .ok (.getfield 61, 3) := by decide +kernel
theorem dX1_look_253 : decode cX1_look 253 = .ok (.putfield 68, 3) := by decide +kernel
theorem dX1_look_256 : decode cX1_look 256 = .ok (.aload_n 0, 1) := by decide +kernel
theorem dX1_look_257 : decode cX1_look 257 = .ok (.getfield 47, 3) := by decide +kernel
theorem dX1_look_260 : decode cX1_look 260 = .ok (.bipush 10, 2) := by decide +kernel
theorem dX1_look_262 : decode cX1_look 262 = .ok (.if_icmp .ne 11, 3) := by decide +kernel
theorem dX1_look_265 : decode cX1_look 265 = .ok (.aload_n 0, 1) := by decide +kernel
theorem dX1_look_266 : decode cX1_look 266 = .ok (.aload_n 0, 1) := by decide +kernel
theorem dX1_look_267 : decode cX1_look 267 = .ok (.getfield 61, 3) := by decide +kernel
theorem dX1_look_270 : decode cX1_look 270 = .ok (.putfield 71, 3) := by decide +kernel
theorem dX1_look_273 : decode cX1_look 273 = .ok (.aload_n 0, 1) := by decide +kernel
theorem dX1_look_274 : decode cX1_look 274 = .ok (.getfield 47, 3) := by decide +kernel
theorem dX1_look_277 : decode cX1_look 277 = .ok (.bipush 11, 2) := by decide +kernel
theorem dX1_look_279 : decode cX1_look 279 = .ok (.if_icmp .ne 15, 3) := by decide +kernel
theorem dX1_look_282 : decode cX1_look 282 = .ok (.aload_n 0, 1) := by decide +kernel
theorem dX1_look_283 : decode cX1_look 283 = .ok (.ldc2_w 76, 3) := by decide +kernel
theorem dX1_look_286 : decode cX1_look 286 = .ok (.aload_n 0, 1) := by decide +kernel
theorem dX1_look_287 : decode cX1_look 287 = .ok (.getfield 61, 3) := by decide +kernel
theorem dX1_look_290 : decode cX1_look 290 = .ok (.lmul, 1) := by decide +kernel
theorem dX1_look_291 : decode cX1_look 291 = .ok (.putfield 71, 3) := by decide +kernel
theorem dX1_look_294 : decode cX1_look 294 = .ok (.iload_n 1, 1) := by decide +kernel
theorem dX1_look_295 : decode cX1_look 295 = .ok (.aload_n 0, 1) := by decide +kernel
theorem dX1_look_296 : decode cX1_look 296 = .ok (.getfield 50, 3) := by decide +kernel
theorem dX1_look_299 : decode cX1_look 299 = .ok (.iadd, 1) := by decide +kernel
theorem dX1_look_300 : decode cX1_look 300 = .ok (.i2l, 1) := by decide +kernel
theorem dX1_look_301 : decode cX1_look 301 = .ok (.aload_n 0, 1) := by decide +kernel
theorem dX1_look_302 : decode cX1_look 302 = .ok (.getfield 68, 3) := by decide +kernel
theorem dX1_look_305 : decode cX1_look 305 = .ok (.ladd, 1) := by decide +kernel
theorem dX1_look_306 : decode cX1_look 306 = .ok (.aload_n 0, 1) := by decide +kernel
theorem dX1_look_307 : decode cX1_look 307 = .ok (.getfield 28, 3) := by decide +kernel
theorem dX1_look_310 : decode cX1_look 310 = .ok (.i2l, 1) := by decide +kernel
theorem dX1_look_311 : decode cX1_look 311 = .ok (.lcmp, 1) := by decide +kernel
theorem dX1_look_312 : decode cX1_look 312 = .ok (.ifCond .le 8, 3) := by decide +kernel
theorem dX1_look_315 : decode cX1_look 315 = .ok (.bipush (-2), 2) := by decide +kernel
theorem dX1_look_317 : decode cX1_look 317 = .ok (.goto 4, 3) := by decide +kernel
theorem dX1_look_320 : decode cX1_look 320 = .ok (.iconst 0, 1) := by decide +kernel
theorem dX1_look_321 : decode cX1_look 321 = .ok (.ireturn, 1) := by decide +kernel
theorem dX1_give_0 : decode cX1_give 0 = .ok (.aload_n 0, 1) := by decide +kernel
theorem dX1_give_1 : decode cX1_give 1 = .ok (.aload_n 0, 1) := by decide +kernel
theorem dX1_give_2 : decode cX1_give 2 = .ok (.getfield 47, 3) := by decide +kernel
theorem dX1_give_5 : decode cX1_give 5 = .ok (.putfield 13, 3) := by decide +kernel
theorem dX1_give_8 : decode cX1_give 8 = .ok (.aload_n 0, 1) := by decide +kernel
theorem dX1_give_9 : decode cX1_give 9 = .ok (.aload_n 0, 1) := by decide +kernel
theorem dX1_give_10 : decode cX1_give 10 = .ok (.getfield 61, 3) := by decide +kernel
theorem dX1_give_13 : decode cX1_give 13 = .ok (.l2i, 1) := by decide +kernel
theorem dX1_give_14 : decode cX1_give 14 = .ok (.putfield 78, 3) := by decide +kernel
theorem dX1_give_17 : decode cX1_give 17 = .ok (.aload_n 0, 1) := by decide +kernel
theorem dX1_give_18 : decode cX1_give 18 = .ok (.aload_n 0, 1) := by decide +kernel
theorem dX1_give_19 : decode cX1_give 19 = .ok (.getfield 47, 3) := by decide +kernel
theorem dX1_give_22 : decode cX1_give 22 = .ok (.bipush 12, 2) := by decide +kernel
theorem dX1_give_24 : decode cX1_give 24 = .ok (.if_icmp .ne 10, 3) := by decide +kernel
theorem dX1_give_27 : decode cX1_give 27 = .ok (.aload_n 0, 1) := by decide +kernel
theorem dX1_give_28 : decode cX1_give 28 = .ok (.getfield 65, 3) := by decide +kernel
theorem dX1_give_31 : decode cX1_give 31 = .ok (.goto 40, 3) := by decide +kernel
theorem dX1_give_34 : decode cX1_give 34 = .ok (.aload_n 0, 1) := by decide +kernel
theorem dX1_give_35 : decode cX1_give 35 = .ok (.getfield 47, 3) := by decide +kernel
theorem dX1_give_38 : decode cX1_give 38 = .ok (.iconst 4, 1) := by decide +kernel
theorem dX1_give_39 : decode cX1_give 39 = .ok (.if_icmp .eq 20, 3) := by decide +kernel
theorem dX1_give_42 : decode cX1_give 42 = .ok (.aload_n 0, 1) := by decide +kernel
theorem dX1_give_43 : decode cX1_give 43 = .ok (.getfield 47, 3) := by decide +kernel
theorem dX1_give_46 : decode cX1_give 46 = .ok (.iconst 5, 1) := by decide +kernel
theorem dX1_give_47 : decode cX1_give 47 = .ok (.if_icmp .eq 12, 3) := by decide +kernel
theorem dX1_give_50 : decode cX1_give 50 = .ok (.aload_n 0, 1) := by decide +kernel
theorem dX1_give_51 : decode cX1_give 51 = .ok (.getfield 47, 3) := by decide +kernel
theorem dX1_give_54 : decode cX1_give 54 = .ok (.bipush 7, 2) := by decide +kernel
theorem dX1_give_56 : decode cX1_give 56 = .ok (.if_icmp .ne 14, 3) := by decide +kernel
theorem dX1_give_59 : decode cX1_give 59 = .ok (.aload_n 0, 1) := by decide +kernel
theorem dX1_give_60 : decode cX1_give 60 = .ok (.getfield 61, 3) := by decide +kernel
theorem dX1_give_63 : decode cX1_give 63 = .ok (.bipush 32, 2) := by decide +kernel
theorem dX1_give_65 : decode cX1_give 65 = .ok (.lshr, 1) := by decide +kernel
theorem dX1_give_66 : decode cX1_give 66 = .ok (.l2i, 1) := by decide +kernel
theorem dX1_give_67 : decode cX1_give 67 = .ok (.goto 4, 3) := by decide +kernel
theorem dX1_give_70 : decode cX1_give 70 = .ok (.iconst 0, 1) := by decide +kernel
theorem dX1_give_71 : decode cX1_give 71 = .ok (.putfield 81, 3) := by decide +kernel
theorem dX1_give_74 : decode cX1_give 74 = .ok (.aload_n 0, 1) := by decide +kernel
theorem dX1_give_75 : decode cX1_give 75 = .ok (.iload_n 1, 1) := by decide +kernel
theorem dX1_give_76 : decode cX1_give 76 = .ok (.putfield 84, 3) := by decide +kernel
theorem dX1_give_79 : decode cX1_give 79 = .ok (.aload_n 0, 1) := by decide +kernel
theorem dX1_give_80 : decode cX1_give 80 = .ok (.aload_n 0, 1) := by decide +kernel
theorem dX1_give_81 : decode cX1_give 81 = .ok (.getfield 68, 3) := by decide +kernel
theorem dX1_give_84 : decode cX1_give 84 = .ok (.l2i, 1) := by decide +kernel
theorem dX1_give_85 : decode cX1_give 85 = .ok (.putfield 87, 3) := by decide +kernel
theorem dX1_give_88 : decode cX1_give 88 = .ok (.return_, 1) := by decide +kernel
theorem dX1_closeDone_0 : decode cX1_closeDone 0 = .ok (.aload_n 0, 1) := by decide +kernel
theorem dX1_closeDone_1 : decode cX1_closeDone 1 = .ok (.getfield 90, 3) := by decide +kernel
theorem dX1_closeDone_4 : decode cX1_closeDone 4 = .ok (.ifCond .le 32, 3) := by decide +kernel
theorem dX1_closeDone_7 : decode cX1_closeDone 7 = .ok (.aload_n 0, 1) := by decide +kernel
theorem dX1_closeDone_8 : decode cX1_closeDone 8 = .ok (.getfield 17, 3) := by decide +kernel
theorem dX1_closeDone_11 : decode cX1_closeDone 11 = .ok (.aload_n 0, 1) := by decide +kernel
theorem dX1_closeDone_12 : decode cX1_closeDone 12 = .ok (.getfield 90, 3) := by decide +kernel
theorem dX1_closeDone_15 : decode cX1_closeDone 15 = .ok (.iconst 1, 1) := by decide +kernel
theorem dX1_closeDone_16 : decode cX1_closeDone 16 = .ok (.isub, 1) := by decide +kernel
theorem dX1_closeDone_17 : decode cX1_closeDone 17 = .ok (.laload, 1) := by decide +kernel
theorem dX1_closeDone_18 : decode cX1_closeDone 18 = .ok (.lconst 0, 1) := by decide +kernel
theorem dX1_closeDone_19 : decode cX1_closeDone 19 = .ok (.lcmp, 1) := by decide +kernel
theorem dX1_closeDone_20 : decode cX1_closeDone 20 = .ok (.ifCond .ne 16, 3) := by decide +kernel
theorem dX1_closeDone_23 : decode cX1_closeDone 23 = .ok (.aload_n 0, 1) := by decide +kernel
theorem dX1_closeDone_24 : decode cX1_closeDone 24 = .ok (.dup, 1) := by decide +kernel
theorem dX1_closeDone_25 : decode cX1_closeDone 25 = .ok (.getfield 90, 3) := by decide +kernel
theorem dX1_closeDone_28 : decode cX1_closeDone 28 = .ok (.iconst 1, 1) := by decide +kernel
theorem dX1_closeDone_29 : decode cX1_closeDone 29 = .ok (.isub, 1) := by decide +kernel
theorem dX1_closeDone_30 : decode cX1_closeDone 30 = .ok (.putfield 90, 3) := by decide +kernel
theorem dX1_closeDone_33 : decode cX1_closeDone 33 = .ok (.goto (-33), 3) := by decide +kernel
theorem dX1_closeDone_36 : decode cX1_closeDone 36 = .ok (.return_, 1) := by decide +kernel
theorem dX1_next_0 : decode cX1_next 0 = .ok (.aload_n 0, 1) := by decide +kernel
theorem dX1_next_1 : decode cX1_next 1 = .ok (.iconst 0, 1) := by decide +kernel
theorem dX1_next_2 : decode cX1_next 2 = .ok (.putfield 21, 3) := by decide +kernel
theorem dX1_next_5 : decode cX1_next 5 = .ok (.aload_n 0, 1) := by decide +kernel
theorem dX1_next_6 : decode cX1_next 6 = .ok (.aload_n 0, 1) := by decide +kernel
theorem dX1_next_7 : decode cX1_next 7 = .ok (.getfield 37, 3) := by decide +kernel
theorem dX1_next_10 : decode cX1_next 10 = .ok (.invokevirtual 93, 3) := by decide +kernel
theorem dX1_next_13 : decode cX1_next 13 = .ok (.istore_n 1, 1) := by decide +kernel
theorem dX1_next_14 : decode cX1_next 14 = .ok (.iload_n 1, 1) := by decide +kernel
theorem dX1_next_15 : decode cX1_next 15 = .ok (.ifCond .eq 5, 3) := by decide +kernel
theorem dX1_next_18 : decode cX1_next 18 = .ok (.iload_n 1, 1) := by decide +kernel
theorem dX1_next_19 : decode cX1_next 19 = .ok (.ireturn, 1) := by decide +kernel
theorem dX1_next_20 : decode cX1_next 20 = .ok (.aload_n 0, 1) := by decide +kernel
theorem dX1_next_21 : decode cX1_next 21 = .ok (.getfield 71, 3) := by decide +kernel
theorem dX1_next_24 : decode cX1_next 24 = .ok (.lconst 0, 1) := by decide +kernel
theorem dX1_next_25 : decode cX1_next 25 = .ok (.lcmp, 1) := by decide +kernel
theorem dX1_next_26 : decode cX1_next 26 = .ok (.ifCond .le 15, 3) := by decide +kernel
theorem dX1_next_29 : decode cX1_next 29 = .ok (.aload_n 0, 1) := by decide +kernel
theorem dX1_next_30 : decode cX1_next 30 = .ok (.getfield 90, 3) := by decide +kernel
theorem dX1_next_33 : decode cX1_next 33 = .ok (.bipush 100, 2) := by decide +kernel
theorem dX1_next_35 : decode cX1_next 35 = .ok (.if_icmp .ne 6, 3) := by decide +kernel
theorem dX1_next_38 : decode cX1_next 38 = .ok (.bipush (-5), 2) := by decide +kernel
theorem dX1_next_40 : decode cX1_next 40 = .ok (.ireturn, 1) := by decide +kernel
theorem dX1_next_41 : decode cX1_next 41 = .ok (.aload_n 0, 1) := by decide +kernel
theorem dX1_next_42 : decode cX1_next 42 = .ok (.aload_n 0, 1) := by decide +kernel
theorem dX1_next_43 : decode cX1_next 43 = .ok (.getfield 37, 3) := by decide +kernel
theorem dX1_next_46 : decode cX1_next 46 = .ok (.aload_n 0, 1) := by decide +kernel
theorem dX1_next_47 : decode cX1_next 47 = .ok (.getfield 50, 3) := by decide +kernel
theorem dX1_next_50 : decode cX1_next 50 = .ok (.iadd, 1) := by decide +kernel
theorem dX1_next_51 : decode cX1_next 51 = .ok (.invokevirtual 96, 3) := by decide +kernel
theorem dX1_next_54 : decode cX1_next 54 = .ok (.aload_n 0, 1) := by decide +kernel
theorem dX1_next_55 : decode cX1_next 55 = .ok (.dup, 1) := by decide +kernel
theorem dX1_next_56 : decode cX1_next 56 = .ok (.getfield 37, 3) := by decide +kernel
theorem dX1_next_59 : decode cX1_next 59 = .ok (.aload_n 0, 1) := by decide +kernel
theorem dX1_next_60 : decode cX1_next 60 = .ok (.getfield 50, 3) := by decide +kernel
theorem dX1_next_63 : decode cX1_next 63 = .ok (.aload_n 0, 1) := by decide +kernel
theorem dX1_next_64 : decode cX1_next 64 = .ok (.getfield 68, 3) := by decide +kernel
theorem dX1_next_67 : decode cX1_next 67 = .ok (.l2i, 1) := by decide +kernel
theorem dX1_next_68 : decode cX1_next 68 = .ok (.iadd, 1) := by decide +kernel
theorem dX1_next_69 : decode cX1_next 69 = .ok (.iadd, 1) := by decide +kernel
theorem dX1_next_70 : decode cX1_next 70 = .ok (.putfield 37, 3) := by decide +kernel
theorem dX1_next_73 : decode cX1_next 73 = .ok (.aload_n 0, 1) := by decide +kernel
theorem dX1_next_74 : decode cX1_next 74 = .ok (.getfield 90, 3) := by decide +kernel
theorem dX1_next_77 : decode cX1_next 77 = .ok (.ifCond .le 18, 3) := by decide +kernel
theorem dX1_next_80 : decode cX1_next 80 = .ok (.aload_n 0, 1) := by decide +kernel
theorem dX1_next_81 : decode cX1_next 81 = .ok (.getfield 17, 3) := by decide +kernel
theorem dX1_next_84 : decode cX1_next 84 = .ok (.aload_n 0, 1) := by decide +kernel
theorem dX1_next_85 : decode cX1_next 85 = .ok (.getfield 90, 3) := by decide +kernel
theorem dX1_next_88 : decode cX1_next 88 = .ok (.iconst 1, 1) := by decide +kernel
theorem dX1_next_89 : decode cX1_next 89 = .ok (.isub, 1) := by decide +kernel
theorem dX1_next_90 : decode cX1_next 90 = .ok (.dup2, 1) := by decide +kernel
theorem dX1_next_91 : decode cX1_next 91 = .ok (.laload, 1) := by decide +kernel
theorem dX1_next_92 : decode cX1_next 92 = .ok (.lconst 1, 1) := by decide +kernel
theorem dX1_next_93 : decode cX1_next 93 = .ok (.lsub, 1) := by decide +kernel
theorem dX1_next_94 : decode cX1_next 94 = .ok (.lastore, 1) := by decide +kernel
theorem dX1_next_95 : decode cX1_next 95 = .ok (.aload_n 0, 1) := by decide +kernel
theorem dX1_next_96 : decode cX1_next 96 = .ok (.getfield 71, 3) := by decide +kernel
theorem dX1_next_99 : decode cX1_next 99 = .ok (.lconst 0, 1) := by decide +kernel
theorem dX1_next_100 : decode cX1_next 100 = .ok (.lcmp, 1) := by decide +kernel
theorem dX1_next_101 : decode cX1_next 101 = .ok (.ifCond .le 26, 3) := by decide +kernel
theorem dX1_next_104 : decode cX1_next 104 = .ok (.aload_n 0, 1) := by decide +kernel
theorem dX1_next_105 : decode cX1_next 105 = .ok (.getfield 17, 3) := by decide +kernel
theorem dX1_next_108 : decode cX1_next 108 = .ok (.aload_n 0, 1) := by decide +kernel
theorem dX1_next_109 : decode cX1_next 109 = .ok (.getfield 90, 3) := by decide +kernel
theorem dX1_next_112 : decode cX1_next 112 = .ok (.aload_n 0, 1) := by decide +kernel
theorem dX1_next_113 : decode cX1_next 113 = .ok (.getfield 71, 3) := by decide +kernel
theorem dX1_next_116 : decode cX1_next 116 = .ok (.lastore, 1) := by decide +kernel
end
section
theorem dX1_next_117 : decode cX1_next 117 = .ok (.aload_n 0, 1) := by decide +kernel
theorem dX1_next_118 : decode cX1_next 118 = .ok (.dup, 1) := by decide +kernel
theorem dX1_next_119 : decode cX1_next 119 = .ok (.getfield 90, 3) := by decide +kernel
theorem dX1_next_122 : decode cX1_next 122 = .ok (.iconst 1, 1) := by decide +kernel
theorem dX1_next_123 : decode cX1_next 123 = .ok (.iadd, 1) := by decide +kernel
theorem dX1_next_124 : decode cX1_next 124 = .ok (.putfield 90, 3) := by decide +kernel
theorem dX1_next_127 : decode cX1_next 127 = .ok (.aload_n 0, 1) := by decide +kernel
theorem dX1_next_128 : decode cX1_next 128 = .ok (.invokevirtual 100, 3) := by decide +kernel
theorem dX1_next_131 : decode cX1_next 131 = .ok (.aload_n 0, 1) := by decide +kernel
theorem dX1_next_132 : decode cX1_next 132 = .ok (.getfield 47, 3) := by decide +kernel
theorem dX1_next_135 : decode cX1_next 135 = .ok (.ireturn, 1) := by decide +kernel
theorem dX1_end_0 : decode cX1_end 0 = .ok (.iload_n 1, 1) := by decide +kernel
theorem dX1_end_1 : decode cX1_end 1 = .ok (.istore_n 2, 1) := by decide +kernel
theorem dX1_end_2 : decode cX1_end 2 = .ok (.lconst 1, 1) := by decide +kernel
theorem dX1_end_3 : decode cX1_end 3 = .ok (.lstore_n 3, 1) := by decide +kernel
theorem dX1_end_4 : decode cX1_end 4 = .ok (.lload_n 3, 1) := by decide +kernel
theorem dX1_end_5 : decode cX1_end 5 = .ok (.lconst 0, 1) := by decide +kernel
theorem dX1_end_6 : decode cX1_end 6 = .ok (.lcmp, 1) := by decide +kernel
theorem dX1_end_7 : decode cX1_end 7 = .ok (.ifCond .le 43, 3) := by decide +kernel
theorem dX1_end_10 : decode cX1_end 10 = .ok (.aload_n 0, 1) := by decide +kernel
theorem dX1_end_11 : decode cX1_end 11 = .ok (.iload_n 2, 1) := by decide +kernel
theorem dX1_end_12 : decode cX1_end 12 = .ok (.invokevirtual 93, 3) := by decide +kernel
theorem dX1_end_15 : decode cX1_end 15 = .ok (.istore 5, 2) := by decide +kernel
theorem dX1_end_17 : decode cX1_end 17 = .ok (.iload 5, 2) := by decide +kernel
theorem dX1_end_19 : decode cX1_end 19 = .ok (.ifCond .eq 6, 3) := by decide +kernel
theorem dX1_end_22 : decode cX1_end 22 = .ok (.iload 5, 2) := by decide +kernel
theorem dX1_end_24 : decode cX1_end 24 = .ok (.ireturn, 1) := by decide +kernel
theorem dX1_end_25 : decode cX1_end 25 = .ok (.iload_n 2, 1) := by decide +kernel
theorem dX1_end_26 : decode cX1_end 26 = .ok (.aload_n 0, 1) := by decide +kernel
theorem dX1_end_27 : decode cX1_end 27 = .ok (.getfield 50, 3) := by decide +kernel
theorem dX1_end_30 : decode cX1_end 30 = .ok (.aload_n 0, 1) := by decide +kernel
theorem dX1_end_31 : decode cX1_end 31 = .ok (.getfield 68, 3) := by decide +kernel
theorem dX1_end_34 : decode cX1_end 34 = .ok (.l2i, 1) := by decide +kernel
theorem dX1_end_35 : decode cX1_end 35 = .ok (.iadd, 1) := by decide +kernel
theorem dX1_end_36 : decode cX1_end 36 = .ok (.iadd, 1) := by decide +kernel
theorem dX1_end_37 : decode cX1_end 37 = .ok (.istore_n 2, 1) := by decide +kernel
theorem dX1_end_38 : decode cX1_end 38 = .ok (.lload_n 3, 1) := by decide +kernel
theorem dX1_end_39 : decode cX1_end 39 = .ok (.aload_n 0, 1) := by decide +kernel
theorem dX1_end_40 : decode cX1_end 40 = .ok (.getfield 71, 3) := by decide +kernel
theorem dX1_end_43 : decode cX1_end 43 = .ok (.lconst 1, 1) := by decide +kernel
theorem dX1_end_44 : decode cX1_end 44 = .ok (.lsub, 1) := by decide +kernel
theorem dX1_end_45 : decode cX1_end 45 = .ok (.ladd, 1) := by decide +kernel
theorem dX1_end_46 : decode cX1_end 46 = .ok (.lstore_n 3, 1) := by decide +kernel
theorem dX1_end_47 : decode cX1_end 47 = .ok (.goto (-43), 3) := by decide +kernel
theorem dX1_end_50 : decode cX1_end 50 = .ok (.iload_n 2, 1) := by decide +kernel
theorem dX1_end_51 : decode cX1_end 51 = .ok (.ireturn, 1) := by decide +kernel
theorem dX1_skip_0 : decode cX1_skip 0 = .ok (.aload_n 0, 1) := by decide +kernel
theorem dX1_skip_1 : decode cX1_skip 1 = .ok (.iconst 0, 1) := by decide +kernel
theorem dX1_skip_2 : decode cX1_skip 2 = .ok (.putfield 21, 3) := by decide +kernel
theorem dX1_skip_5 : decode cX1_skip 5 = .ok (.aload_n 0, 1) := by decide +kernel
theorem dX1_skip_6 : decode cX1_skip 6 = .ok (.aload_n 0, 1) := by decide +kernel
theorem dX1_skip_7 : decode cX1_skip 7 = .ok (.getfield 37, 3) := by decide +kernel
theorem dX1_skip_10 : decode cX1_skip 10 = .ok (.invokevirtual 103, 3) := by decide +kernel
theorem dX1_skip_13 : decode cX1_skip 13 = .ok (.istore_n 1, 1) := by decide +kernel
theorem dX1_skip_14 : decode cX1_skip 14 = .ok (.iload_n 1, 1) := by decide +kernel
theorem dX1_skip_15 : decode cX1_skip 15 = .ok (.ifCond .ge 5, 3) := by decide +kernel
theorem dX1_skip_18 : decode cX1_skip 18 = .ok (.iload_n 1, 1) := by decide +kernel
theorem dX1_skip_19 : decode cX1_skip 19 = .ok (.ireturn, 1) := by decide +kernel
theorem dX1_skip_20 : decode cX1_skip 20 = .ok (.aload_n 0, 1) := by decide +kernel
theorem dX1_skip_21 : decode cX1_skip 21 = .ok (.iload_n 1, 1) := by decide +kernel
theorem dX1_skip_22 : decode cX1_skip 22 = .ok (.aload_n 0, 1) := by decide +kernel
theorem dX1_skip_23 : decode cX1_skip 23 = .ok (.getfield 68, 3) := by decide +kernel
theorem dX1_skip_26 : decode cX1_skip 26 = .ok (.l2i, 1) := by decide +kernel
theorem dX1_skip_27 : decode cX1_skip 27 = .ok (.isub, 1) := by decide +kernel
theorem dX1_skip_28 : decode cX1_skip 28 = .ok (.invokevirtual 96, 3) := by decide +kernel
theorem dX1_skip_31 : decode cX1_skip 31 = .ok (.iload_n 1, 1) := by decide +kernel
theorem dX1_skip_32 : decode cX1_skip 32 = .ok (.aload_n 0, 1) := by decide +kernel
theorem dX1_skip_33 : decode cX1_skip 33 = .ok (.getfield 37, 3) := by decide +kernel
theorem dX1_skip_36 : decode cX1_skip 36 = .ok (.isub, 1) := by decide +kernel
theorem dX1_skip_37 : decode cX1_skip 37 = .ok (.istore_n 2, 1) := by decide +kernel
theorem dX1_skip_38 : decode cX1_skip 38 = .ok (.aload_n 0, 1) := by decide +kernel
theorem dX1_skip_39 : decode cX1_skip 39 = .ok (.iload_n 1, 1) := by decide +kernel
theorem dX1_skip_40 : decode cX1_skip 40 = .ok (.putfield 37, 3) := by decide +kernel
theorem dX1_skip_43 : decode cX1_skip 43 = .ok (.aload_n 0, 1) := by decide +kernel
theorem dX1_skip_44 : decode cX1_skip 44 = .ok (.getfield 90, 3) := by decide +kernel
theorem dX1_skip_47 : decode cX1_skip 47 = .ok (.ifCond .le 18, 3) := by decide +kernel
theorem dX1_skip_50 : decode cX1_skip 50 = .ok (.aload_n 0, 1) := by decide +kernel
theorem dX1_skip_51 : decode cX1_skip 51 = .ok (.getfield 17, 3) := by decide +kernel
theorem dX1_skip_54 : decode cX1_skip 54 = .ok (.aload_n 0, 1) := by decide +kernel
theorem dX1_skip_55 : decode cX1_skip 55 = .ok (.getfield 90, 3) := by decide +kernel
theorem dX1_skip_58 : decode cX1_skip 58 = .ok (.iconst 1, 1) := by decide +kernel
theorem dX1_skip_59 : decode cX1_skip 59 = .ok (.isub, 1) := by decide +kernel
theorem dX1_skip_60 : decode cX1_skip 60 = .ok (.dup2, 1) := by decide +kernel
theorem dX1_skip_61 : decode cX1_skip 61 = .ok (.laload, 1) := by decide +kernel
theorem dX1_skip_62 : decode cX1_skip 62 = .ok (.lconst 1, 1) := by decide +kernel
theorem dX1_skip_63 : decode cX1_skip 63 = .ok (.lsub, 1) := by decide +kernel
theorem dX1_skip_64 : decode cX1_skip 64 = .ok (.lastore, 1) := by decide +kernel
theorem dX1_skip_65 : decode cX1_skip 65 = .ok (.aload_n 0, 1) := by decide +kernel
theorem dX1_skip_66 : decode cX1_skip 66 = .ok (.invokevirtual 100, 3) := by decide +kernel
theorem dX1_skip_69 : decode cX1_skip 69 = .ok (.iload_n 2, 1) := by decide +kernel
theorem dX1_skip_70 : decode cX1_skip 70 = .ok (.ireturn, 1) := by decide +kernel
theorem dX1_kind_0 : decode cX1_kind 0 = .ok (.aload_n 0, 1) := by decide +kernel
theorem dX1_kind_1 : decode cX1_kind 1 = .ok (.iconst 0, 1) := by decide +kernel
theorem dX1_kind_2 : decode cX1_kind 2 = .ok (.putfield 21, 3) := by decide +kernel
theorem dX1_kind_5 : decode cX1_kind 5 = .ok (.aload_n 0, 1) := by decide +kernel
theorem dX1_kind_6 : decode cX1_kind 6 = .ok (.getfield 13, 3) := by decide +kernel
theorem dX1_kind_9 : decode cX1_kind 9 = .ok (.ireturn, 1) := by decide +kernel
theorem dX1_valueLow_0 : decode cX1_valueLow 0 = .ok (.aload_n 0, 1) := by decide +kernel
theorem dX1_valueLow_1 : decode cX1_valueLow 1 = .ok (.iconst 0, 1) := by decide +kernel
theorem dX1_valueLow_2 : decode cX1_valueLow 2 = .ok (.putfield 21, 3) := by decide +kernel
theorem dX1_valueLow_5 : decode cX1_valueLow 5 = .ok (.aload_n 0, 1) := by decide +kernel
theorem dX1_valueLow_6 : decode cX1_valueLow 6 = .ok (.getfield 78, 3) := by decide +kernel
theorem dX1_valueLow_9 : decode cX1_valueLow 9 = .ok (.ireturn, 1) := by decide +kernel
theorem dX1_valueHigh_0 : decode cX1_valueHigh 0 = .ok (.aload_n 0, 1) := by decide +kernel
theorem dX1_valueHigh_1 : decode cX1_valueHigh 1 = .ok (.iconst 0, 1) := by decide +kernel
theorem dX1_valueHigh_2 : decode cX1_valueHigh 2 = .ok (.putfield 21, 3) := by decide +kernel
theorem dX1_valueHigh_5 : decode cX1_valueHigh 5 = .ok (.aload_n 0, 1) := by decide +kernel
theorem dX1_valueHigh_6 : decode cX1_valueHigh 6 = .ok (.getfield 81, 3) := by decide +kernel
theorem dX1_valueHigh_9 : decode cX1_valueHigh 9 = .ok (.ireturn, 1) := by decide +kernel
theorem dX1_payload_0 : decode cX1_payload 0 = .ok (.aload_n 0, 1) := by decide +kernel
theorem dX1_payload_1 : decode cX1_payload 1 = .ok (.iconst 0, 1) := by decide +kernel
theorem dX1_payload_2 : decode cX1_payload 2 = .ok (.putfield 21, 3) := by decide +kernel
theorem dX1_payload_5 : decode cX1_payload 5 = .ok (.iload_n 1, 1) := by decide +kernel
theorem dX1_payload_6 : decode cX1_payload 6 = .ok (.ifCond .lt 11, 3) := by decide +kernel
theorem dX1_payload_9 : decode cX1_payload 9 = .ok (.iload_n 1, 1) := by decide +kernel
theorem dX1_payload_10 : decode cX1_payload 10 = .ok (.aload_n 0, 1) := by decide +kernel
theorem dX1_payload_11 : decode cX1_payload 11 = .ok (.getfield 87, 3) := by decide +kernel
theorem dX1_payload_14 : decode cX1_payload 14 = .ok (.if_icmp .lt 7, 3) := by decide +kernel
theorem dX1_payload_17 : decode cX1_payload 17 = .ok (.iconst (-1), 1) := by decide +kernel
theorem dX1_payload_18 : decode cX1_payload 18 = .ok (.goto 14, 3) := by decide +kernel
theorem dX1_payload_21 : decode cX1_payload 21 = .ok (.aload_n 0, 1) := by decide +kernel
theorem dX1_payload_22 : decode cX1_payload 22 = .ok (.getfield 7, 3) := by decide +kernel
theorem dX1_payload_25 : decode cX1_payload 25 = .ok (.aload_n 0, 1) := by decide +kernel
theorem dX1_payload_26 : decode cX1_payload 26 = .ok (.getfield 84, 3) := by decide +kernel
theorem dX1_payload_29 : decode cX1_payload 29 = .ok (.iload_n 1, 1) := by decide +kernel
theorem dX1_payload_30 : decode cX1_payload 30 = .ok (.iadd, 1) := by decide +kernel
theorem dX1_payload_31 : decode cX1_payload 31 = .ok (.iaload, 1) := by decide +kernel
theorem dX1_payload_32 : decode cX1_payload 32 = .ok (.ireturn, 1) := by decide +kernel
theorem dX1_level_0 : decode cX1_level 0 = .ok (.aload_n 0, 1) := by decide +kernel
theorem dX1_level_1 : decode cX1_level 1 = .ok (.iconst 0, 1) := by decide +kernel
theorem dX1_level_2 : decode cX1_level 2 = .ok (.putfield 21, 3) := by decide +kernel
theorem dX1_level_5 : decode cX1_level 5 = .ok (.aload_n 0, 1) := by decide +kernel
theorem dX1_level_6 : decode cX1_level 6 = .ok (.getfield 90, 3) := by decide +kernel
theorem dX1_level_9 : decode cX1_level 9 = .ok (.ireturn, 1) := by decide +kernel
theorem dX1_remaining_0 : decode cX1_remaining 0 = .ok (.aload_n 0, 1) := by decide +kernel
theorem dX1_remaining_1 : decode cX1_remaining 1 = .ok (.iconst 0, 1) := by decide +kernel
theorem dX1_remaining_2 : decode cX1_remaining 2 = .ok (.putfield 21, 3) := by decide +kernel
theorem dX1_remaining_5 : decode cX1_remaining 5 = .ok (.aload_n 0, 1) := by decide +kernel
theorem dX1_remaining_6 : decode cX1_remaining 6 = .ok (.iload_n 1, 1) := by decide +kernel
theorem dX1_remaining_7 : decode cX1_remaining 7 = .ok (.ifCond .ge 7, 3) := by decide +kernel
theorem dX1_remaining_10 : decode cX1_remaining 10 = .ok (.iconst 1, 1) := by decide +kernel
theorem dX1_remaining_11 : decode cX1_remaining 11 = .ok (.goto 4, 3) := by decide +kernel
theorem dX1_remaining_14 : decode cX1_remaining 14 = .ok (.iconst 0, 1) := by decide +kernel
theorem dX1_remaining_15 : decode cX1_remaining 15 = .ok (.iconst 1, 1) := by decide +kernel
theorem dX1_remaining_16 : decode cX1_remaining 16 = .ok (.invokevirtual 24, 3) := by decide +kernel
theorem dX1_remaining_19 : decode cX1_remaining 19 = .ok (.ifCond .eq 5, 3) := by decide +kernel
theorem dX1_remaining_22 : decode cX1_remaining 22 = .ok (.lconst 0, 1) := by decide +kernel
theorem dX1_remaining_23 : decode cX1_remaining 23 = .ok (.lreturn, 1) := by decide +kernel
theorem dX1_remaining_24 : decode cX1_remaining 24 = .ok (.iload_n 1, 1) := by decide +kernel
theorem dX1_remaining_25 : decode cX1_remaining 25 = .ok (.aload_n 0, 1) := by decide +kernel
theorem dX1_remaining_26 : decode cX1_remaining 26 = .ok (.getfield 90, 3) := by decide +kernel
theorem dX1_remaining_29 : decode cX1_remaining 29 = .ok (.if_icmp .lt 9, 3) := by decide +kernel
theorem dX1_remaining_32 : decode cX1_remaining 32 = .ok (.ldc2_w 106, 3) := by decide +kernel
theorem dX1_remaining_35 : decode cX1_remaining 35 = .ok (.goto 16, 3) := by decide +kernel
theorem dX1_remaining_38 : decode cX1_remaining 38 = .ok (.aload_n 0, 1) := by decide +kernel
theorem dX1_remaining_39 : decode cX1_remaining 39 = .ok (.getfield 17, 3) := by decide +kernel
theorem dX1_remaining_42 : decode cX1_remaining 42 = .ok (.aload_n 0, 1) := by decide +kernel
theorem dX1_remaining_43 : decode cX1_remaining 43 = .ok (.getfield 90, 3) := by decide +kernel
theorem dX1_remaining_46 : decode cX1_remaining 46 = .ok (.iconst 1, 1) := by decide +kernel
theorem dX1_remaining_47 : decode cX1_remaining 47 = .ok (.isub, 1) := by decide +kernel
theorem dX1_remaining_48 : decode cX1_remaining 48 = .ok (.iload_n 1, 1) := by decide +kernel
theorem dX1_remaining_49 : decode cX1_remaining 49 = .ok (.isub, 1) := by decide +kernel
theorem dX1_remaining_50 : decode cX1_remaining 50 = .ok (.laload, 1) := by decide +kernel
theorem dX1_remaining_51 : decode cX1_remaining 51 = .ok (.lreturn, 1) := by decide +kernel
theorem dX1_consumed_0 : decode cX1_consumed 0 = .ok (.aload_n 0, 1) := by decide +kernel
theorem dX1_consumed_1 : decode cX1_consumed 1 = .ok (.iconst 0, 1) := by decide +kernel
theorem dX1_consumed_2 : decode cX1_consumed 2 = .ok (.putfield 21, 3) := by decide +kernel
theorem dX1_consumed_5 : decode cX1_consumed 5 = .ok (.aload_n 0, 1) := by decide +kernel
theorem dX1_consumed_6 : decode cX1_consumed 6 = .ok (.getfield 37, 3) := by decide +kernel
theorem dX1_consumed_9 : decode cX1_consumed 9 = .ok (.ireturn, 1) := by decide +kernel
theorem dX1_whole_0 : decode cX1_whole 0 = .ok (.aload_n 0, 1) := by decide +kernel
theorem dX1_whole_1 : decode cX1_whole 1 = .ok (.iconst 0, 1) := by decide +kernel
theorem dX1_whole_2 : decode cX1_whole 2 = .ok (.putfield 21, 3) := by decide +kernel
theorem dX1_whole_5 : decode cX1_whole 5 = .ok (.iconst 0, 1) := by decide +kernel
theorem dX1_whole_6 : decode cX1_whole 6 = .ok (.istore_n 1, 1) := by decide +kernel
theorem dX1_whole_7 : decode cX1_whole 7 = .ok (.aload_n 0, 1) := by decide +kernel
theorem dX1_whole_8 : decode cX1_whole 8 = .ok (.aload_n 0, 1) := by decide +kernel
theorem dX1_whole_9 : decode cX1_whole 9 = .ok (.getfield 37, 3) := by decide +kernel
theorem dX1_whole_12 : decode cX1_whole 12 = .ok (.invokevirtual 103, 3) := by decide +kernel
theorem dX1_whole_15 : decode cX1_whole 15 = .ok (.istore_n 2, 1) := by decide +kernel
theorem dX1_whole_16 : decode cX1_whole 16 = .ok (.iload_n 2, 1) := by decide +kernel
theorem dX1_whole_17 : decode cX1_whole 17 = .ok (.ifCond .lt 15, 3) := by decide +kernel
theorem dX1_whole_20 : decode cX1_whole 20 = .ok (.iinc 1 1, 3) := by decide +kernel
theorem dX1_whole_23 : decode cX1_whole 23 = .ok (.aload_n 0, 1) := by decide +kernel
theorem dX1_whole_24 : decode cX1_whole 24 = .ok (.iload_n 2, 1) := by decide +kernel
theorem dX1_whole_25 : decode cX1_whole 25 = .ok (.invokevirtual 103, 3) := by decide +kernel
theorem dX1_whole_28 : decode cX1_whole 28 = .ok (.istore_n 2, 1) := by decide +kernel
theorem dX1_whole_29 : decode cX1_whole 29 = .ok (.goto (-13), 3) := by decide +kernel
theorem dX1_whole_32 : decode cX1_whole 32 = .ok (.iload_n 1, 1) := by decide +kernel
theorem dX1_whole_33 : decode cX1_whole 33 = .ok (.ireturn, 1) := by decide +kernel
theorem dX1_packHead_0 : decode cX1_packHead 0 = .ok (.aload_n 0, 1) := by decide +kernel
theorem dX1_packHead_1 : decode cX1_packHead 1 = .ok (.aload_n 0, 1) := by decide +kernel
theorem dX1_packHead_2 : decode cX1_packHead 2 = .ok (.getfield 28, 3) := by decide +kernel
theorem dX1_packHead_5 : decode cX1_packHead 5 = .ok (.iconst 1, 1) := by decide +kernel
theorem dX1_packHead_6 : decode cX1_packHead 6 = .ok (.iadd, 1) := by decide +kernel
theorem dX1_packHead_7 : decode cX1_packHead 7 = .ok (.iload_n 2, 1) := by decide +kernel
theorem dX1_packHead_8 : decode cX1_packHead 8 = .ok (.iadd, 1) := by decide +kernel
theorem dX1_packHead_9 : decode cX1_packHead 9 = .ok (.iload 5, 2) := by decide +kernel
theorem dX1_packHead_11 : decode cX1_packHead 11 = .ok (.iconst (-1), 1) := by decide +kernel
theorem dX1_packHead_12 : decode cX1_packHead 12 = .ok (.if_icmp .le 7, 3) := by decide +kernel
theorem dX1_packHead_15 : decode cX1_packHead 15 = .ok (.iconst 1, 1) := by decide +kernel
theorem dX1_packHead_16 : decode cX1_packHead 16 = .ok (.goto 4, 3) := by decide +kernel
theorem dX1_packHead_19 : decode cX1_packHead 19 = .ok (.iconst 0, 1) := by decide +kernel
theorem dX1_packHead_20 : decode cX1_packHead 20 = .ok (.iadd, 1) := by decide +kernel
theorem dX1_packHead_21 : decode cX1_packHead 21 = .ok (.sipush 4096, 3) := by decide +kernel
theorem dX1_packHead_24 : decode cX1_packHead 24 = .ok (.if_icmp .le 7, 3) := by decide +kernel
theorem dX1_packHead_27 : decode cX1_packHead 27 = .ok (.iconst 1, 1) := by decide +kernel
theorem dX1_packHead_28 : decode cX1_packHead 28 = .ok (.goto 4, 3) := by decide +kernel
theorem dX1_packHead_31 : decode cX1_packHead 31 = .ok (.iconst 0, 1) := by decide +kernel
theorem dX1_packHead_32 : decode cX1_packHead 32 = .ok (.iconst 2, 1) := by decide +kernel
theorem dX1_packHead_33 : decode cX1_packHead 33 = .ok (.invokevirtual 24, 3) := by decide +kernel
theorem dX1_packHead_36 : decode cX1_packHead 36 = .ok (.ifCond .eq 5, 3) := by decide +kernel
theorem dX1_packHead_39 : decode cX1_packHead 39 = .ok (.iconst 0, 1) := by decide +kernel
theorem dX1_packHead_40 : decode cX1_packHead 40 = .ok (.ireturn, 1) := by decide +kernel
theorem dX1_packHead_41 : decode cX1_packHead 41 = .ok (.aload_n 0, 1) := by decide +kernel
theorem dX1_packHead_42 : decode cX1_packHead 42 = .ok (.getfield 7, 3) := by decide +kernel
theorem dX1_packHead_45 : decode cX1_packHead 45 = .ok (.aload_n 0, 1) := by decide +kernel
theorem dX1_packHead_46 : decode cX1_packHead 46 = .ok (.getfield 28, 3) := by decide +kernel
theorem dX1_packHead_49 : decode cX1_packHead 49 = .ok (.iload_n 1, 1) := by decide +kernel
theorem dX1_packHead_50 : decode cX1_packHead 50 = .ok (.iastore, 1) := by decide +kernel
theorem dX1_packHead_51 : decode cX1_packHead 51 = .ok (.aload_n 0, 1) := by decide +kernel
theorem dX1_packHead_52 : decode cX1_packHead 52 = .ok (.dup, 1) := by decide +kernel
theorem dX1_packHead_53 : decode cX1_packHead 53 = .ok (.getfield 28, 3) := by decide +kernel
theorem dX1_packHead_56 : decode cX1_packHead 56 = .ok (.iconst 1, 1) := by decide +kernel
theorem dX1_packHead_57 : decode cX1_packHead 57 = .ok (.iadd, 1) := by decide +kernel
theorem dX1_packHead_58 : decode cX1_packHead 58 = .ok (.putfield 28, 3) := by decide +kernel
theorem dX1_packHead_61 : decode cX1_packHead 61 = .ok (.aload_n 0, 1) := by decide +kernel
theorem dX1_packHead_62 : decode cX1_packHead 62 = .ok (.lload_n 3, 1) := by decide +kernel
theorem dX1_packHead_63 : decode cX1_packHead 63 = .ok (.iload_n 2, 1) := by decide +kernel
theorem dX1_packHead_64 : decode cX1_packHead 64 = .ok (.invokevirtual 33, 3) := by decide +kernel
theorem dX1_packHead_67 : decode cX1_packHead 67 = .ok (.iload 5, 2) := by decide +kernel
theorem dX1_packHead_69 : decode cX1_packHead 69 = .ok (.iconst (-1), 1) := by decide +kernel
theorem dX1_packHead_70 : decode cX1_packHead 70 = .ok (.if_icmp .le 11, 3) := by decide +kernel
theorem dX1_packHead_73 : decode cX1_packHead 73 = .ok (.aload_n 0, 1) := by decide +kernel
theorem dX1_packHead_74 : decode cX1_packHead 74 = .ok (.iload 5, 2) := by decide +kernel
theorem dX1_packHead_76 : decode cX1_packHead 76 = .ok (.i2l, 1) := by decide +kernel
theorem dX1_packHead_77 : decode cX1_packHead 77 = .ok (.iconst 1, 1) := by decide +kernel
theorem dX1_packHead_78 : decode cX1_packHead 78 = .ok (.invokevirtual 33, 3) := by decide +kernel
theorem dX1_packHead_81 : decode cX1_packHead 81 = .ok (.iconst 1, 1) := by decide +kernel
theorem dX1_packHead_82 : decode cX1_packHead 82 = .ok (.iload_n 2, 1) := by decide +kernel
theorem dX1_packHead_83 : decode cX1_packHead 83 = .ok (.iadd, 1) := by decide +kernel
theorem dX1_packHead_84 : decode cX1_packHead 84 = .ok (.iload 5, 2) := by decide +kernel
theorem dX1_packHead_86 : decode cX1_packHead 86 = .ok (.iconst (-1), 1) := by decide +kernel
theorem dX1_packHead_87 : decode cX1_packHead 87 = .ok (.if_icmp .le 7, 3) := by decide +kernel
theorem dX1_packHead_90 : decode cX1_packHead 90 = .ok (.iconst 1, 1) := by decide +kernel
theorem dX1_packHead_91 : decode cX1_packHead 91 = .ok (.goto 4, 3) := by decide +kernel
theorem dX1_packHead_94 : decode cX1_packHead 94 = .ok (.iconst 0, 1) := by decide +kernel
theorem dX1_packHead_95 : decode cX1_packHead 95 = .ok (.iadd, 1) := by decide +kernel
theorem dX1_packHead_96 : decode cX1_packHead 96 = .ok (.ireturn, 1) := by decide +kernel
theorem dX1_log_0 : decode cX1_log 0 = .ok (.iload_n 0, 1) := by decide +kernel
theorem dX1_log_1 : decode cX1_log 1 = .ok (.iconst 1, 1) := by decide +kernel
theorem dX1_log_2 : decode cX1_log 2 = .ok (.if_icmp .ne 7, 3) := by decide +kernel
theorem dX1_log_5 : decode cX1_log 5 = .ok (.iconst 0, 1) := by decide +kernel
theorem dX1_log_6 : decode cX1_log 6 = .ok (.goto 22, 3) := by decide +kernel
theorem dX1_log_9 : decode cX1_log 9 = .ok (.iload_n 0, 1) := by decide +kernel
theorem dX1_log_10 : decode cX1_log 10 = .ok (.iconst 2, 1) := by decide +kernel
theorem dX1_log_11 : decode cX1_log 11 = .ok (.if_icmp .ne 7, 3) := by decide +kernel
theorem dX1_log_14 : decode cX1_log 14 = .ok (.iconst 1, 1) := by decide +kernel
theorem dX1_log_15 : decode cX1_log 15 = .ok (.goto 13, 3) := by decide +kernel
theorem dX1_log_18 : decode cX1_log 18 = .ok (.iload_n 0, 1) := by decide +kernel
theorem dX1_log_19 : decode cX1_log 19 = .ok (.iconst 4, 1) := by decide +kernel
theorem dX1_log_20 : decode cX1_log 20 = .ok (.if_icmp .ne 7, 3) := by decide +kernel
theorem dX1_log_23 : decode cX1_log 23 = .ok (.iconst 2, 1) := by decide +kernel
theorem dX1_log_24 : decode cX1_log 24 = .ok (.goto 4, 3) := by decide +kernel
theorem dX1_log_27 : decode cX1_log 27 = .ok (.iconst 3, 1) := by decide +kernel
theorem dX1_log_28 : decode cX1_log 28 = .ok (.ireturn, 1) := by decide +kernel
theorem dX1_needs_0 : decode cX1_needs 0 = .ok (.lload_n 0, 1) := by decide +kernel
theorem dX1_needs_1 : decode cX1_needs 1 = .ok (.bipush 8, 2) := by decide +kernel
theorem dX1_needs_3 : decode cX1_needs 3 = .ok (.lushr, 1) := by decide +kernel
theorem dX1_needs_4 : decode cX1_needs 4 = .ok (.lconst 0, 1) := by decide +kernel
theorem dX1_needs_5 : decode cX1_needs 5 = .ok (.lcmp, 1) := by decide +kernel
theorem dX1_needs_6 : decode cX1_needs 6 = .ok (.ifCond .ne 7, 3) := by decide +kernel
theorem dX1_needs_9 : decode cX1_needs 9 = .ok (.iconst 1, 1) := by decide +kernel
theorem dX1_needs_10 : decode cX1_needs 10 = .ok (.goto 31, 3) := by decide +kernel
theorem dX1_needs_13 : decode cX1_needs 13 = .ok (.lload_n 0, 1) := by decide +kernel
theorem dX1_needs_14 : decode cX1_needs 14 = .ok (.bipush 16, 2) := by decide +kernel
theorem dX1_needs_16 : decode cX1_needs 16 = .ok (.lushr, 1) := by decide +kernel
theorem dX1_needs_17 : decode cX1_needs 17 = .ok (.lconst 0, 1) := by decide +kernel
theorem dX1_needs_18 : decode cX1_needs 18 = .ok (.lcmp, 1) := by decide +kernel
theorem dX1_needs_19 : decode cX1_needs 19 = .ok (.ifCond .ne 7, 3) := by decide +kernel
theorem dX1_needs_22 : decode cX1_needs 22 = .ok (.iconst 2, 1) := by decide +kernel
theorem dX1_needs_23 : decode cX1_needs 23 = .ok (.goto 18, 3) := by decide +kernel
theorem dX1_needs_26 : decode cX1_needs 26 = .ok (.lload_n 0, 1) := by decide +kernel
theorem dX1_needs_27 : decode cX1_needs 27 = .ok (.bipush 32, 2) := by decide +kernel
theorem dX1_needs_29 : decode cX1_needs 29 = .ok (.lushr, 1) := by decide +kernel
theorem dX1_needs_30 : decode cX1_needs 30 = .ok (.lconst 0, 1) := by decide +kernel
theorem dX1_needs_31 : decode cX1_needs 31 = .ok (.lcmp, 1) := by decide +kernel
theorem dX1_needs_32 : decode cX1_needs 32 = .ok (.ifCond .ne 7, 3) := by decide +kernel
theorem dX1_needs_35 : decode cX1_needs 35 = .ok (.iconst 4, 1) := by decide +kernel
theorem dX1_needs_36 : decode cX1_needs 36 = .ok (.goto 5, 3) := by decide +kernel
theorem dX1_needs_39 : decode cX1_needs 39 = .ok (.bipush 8, 2) := by decide +kernel
theorem dX1_needs_41 : decode cX1_needs 41 = .ok (.ireturn, 1) := by decide +kernel
theorem dX1_needsSigned_0 : decode cX1_needsSigned 0 = .ok (.lload_n 0, 1) := by decide +kernel
theorem dX1_needsSigned_1 : decode cX1_needsSigned 1 = .ok (.ldc2_w 108, 3) := by decide +kernel
theorem dX1_needsSigned_4 : decode cX1_needsSigned 4 = .ok (.lcmp, 1) := by decide +kernel
theorem dX1_needsSigned_5 : decode cX1_needsSigned 5 = .ok (.ifCond .lt 15, 3) := by decide +kernel
theorem dX1_needsSigned_8 : decode cX1_needsSigned 8 = .ok (.lload_n 0, 1) := by decide +kernel
theorem dX1_needsSigned_9 : decode cX1_needsSigned 9 = .ok (.ldc2_w 110, 3) := by decide +kernel
theorem dX1_needsSigned_12 : decode cX1_needsSigned 12 = .ok (.lcmp, 1) := by decide +kernel
theorem dX1_needsSigned_13 : decode cX1_needsSigned 13 = .ok (.ifCond .ge 7, 3) := by decide +kernel
theorem dX1_needsSigned_16 : decode cX1_needsSigned 16 = .ok (.iconst 1, 1) := by decide +kernel
theorem dX1_needsSigned_17 : decode cX1_needsSigned 17 = .ok (.goto 45, 3) := by decide +kernel
theorem dX1_needsSigned_20 : decode cX1_needsSigned 20 = .ok (.lload_n 0, 1) := by decide +kernel
theorem dX1_needsSigned_21 : decode cX1_needsSigned 21 = .ok (.ldc2_w 112, 3) := by decide +kernel
theorem dX1_needsSigned_24 : decode cX1_needsSigned 24 = .ok (.lcmp, 1) := by decide +kernel
theorem dX1_needsSigned_25 : decode cX1_needsSigned 25 = .ok (.ifCond .lt 15, 3) := by decide +kernel
theorem dX1_needsSigned_28 : decode cX1_needsSigned 28 = .ok (.lload_n 0, 1) := by decide +kernel
theorem dX1_needsSigned_29 : decode cX1_needsSigned 29 = .ok (.ldc2_w 114, 3) := by decide +kernel
theorem dX1_needsSigned_32 : decode cX1_needsSigned 32 = .ok (.lcmp, 1) := by decide +kernel
theorem dX1_needsSigned_33 : decode cX1_needsSigned 33 = .ok (.ifCond .ge 7, 3) := by decide +kernel
theorem dX1_needsSigned_36 : decode cX1_needsSigned 36 = .ok (.iconst 2, 1) := by decide +kernel
theorem dX1_needsSigned_37 : decode cX1_needsSigned 37 = .ok (.goto 25, 3) := by decide +kernel
theorem dX1_needsSigned_40 : decode cX1_needsSigned 40 = .ok (.lload_n 0, 1) := by decide +kernel
theorem dX1_needsSigned_41 : decode cX1_needsSigned 41 = .ok (.ldc2_w 116, 3) := by decide +kernel
theorem dX1_needsSigned_44 : decode cX1_needsSigned 44 = .ok (.lcmp, 1) := by decide +kernel
theorem dX1_needsSigned_45 : decode cX1_needsSigned 45 = .ok (.ifCond .lt 15, 3) := by decide +kernel
theorem dX1_needsSigned_48 : decode cX1_needsSigned 48 = .ok (.lload_n 0, 1) := by decide +kernel
theorem dX1_needsSigned_49 : decode cX1_needsSigned 49 = .ok (.ldc2_w 74, 3) := by decide +kernel
theorem dX1_needsSigned_52 : decode cX1_needsSigned 52 = .ok (.lcmp, 1) := by decide +kernel
theorem dX1_needsSigned_53 : decode cX1_needsSigned 53 = .ok (.ifCond .gt 7, 3) := by decide +kernel
theorem dX1_needsSigned_56 : decode cX1_needsSigned 56 = .ok (.iconst 4, 1) := by decide +kernel
theorem dX1_needsSigned_57 : decode cX1_needsSigned 57 = .ok (.goto 5, 3) := by decide +kernel
theorem dX1_needsSigned_60 : decode cX1_needsSigned 60 = .ok (.bipush 8, 2) := by decide +kernel
theorem dX1_needsSigned_62 : decode cX1_needsSigned 62 = .ok (.ireturn, 1) := by decide +kernel
theorem dX1_pack_0 : decode cX1_pack 0 = .ok (.aload_n 0, 1) := by decide +kernel
theorem dX1_pack_1 : decode cX1_pack 1 = .ok (.iconst 0, 1) := by decide +kernel
theorem dX1_pack_2 : decode cX1_pack 2 = .ok (.putfield 21, 3) := by decide +kernel
theorem dX1_pack_5 : decode cX1_pack 5 = .ok (.iload_n 1, 1) := by decide +kernel
theorem dX1_pack_6 : decode cX1_pack 6 = .ok (.ifCond .le 41, 3) := by decide +kernel
theorem dX1_pack_9 : decode cX1_pack 9 = .ok (.iload_n 1, 1) := by decide +kernel
theorem dX1_pack_10 : decode cX1_pack 10 = .ok (.bipush 13, 2) := by decide +kernel
theorem dX1_pack_12 : decode cX1_pack 12 = .ok (.if_icmp .ge 35, 3) := by decide +kernel
theorem dX1_pack_15 : decode cX1_pack 15 = .ok (.iload_n 1, 1) := by decide +kernel
theorem dX1_pack_16 : decode cX1_pack 16 = .ok (.bipush 8, 2) := by decide +kernel
theorem dX1_pack_18 : decode cX1_pack 18 = .ok (.if_icmp .lt 7, 3) := by decide +kernel
theorem dX1_pack_21 : decode cX1_pack 21 = .ok (.iload_n 2, 1) := by decide +kernel
theorem dX1_pack_22 : decode cX1_pack 22 = .ok (.ifCond .lt 25, 3) := by decide +kernel
theorem dX1_pack_25 : decode cX1_pack 25 = .ok (.iload_n 1, 1) := by decide +kernel
theorem dX1_pack_26 : decode cX1_pack 26 = .ok (.bipush 12, 2) := by decide +kernel
theorem dX1_pack_28 : decode cX1_pack 28 = .ok (.if_icmp .ne 15, 3) := by decide +kernel
theorem dX1_pack_31 : decode cX1_pack 31 = .ok (.iload_n 3, 1) := by decide +kernel
theorem dX1_pack_32 : decode cX1_pack 32 = .ok (.bipush (-128), 2) := by decide +kernel
theorem dX1_pack_34 : decode cX1_pack 34 = .ok (.if_icmp .lt 13, 3) := by decide +kernel
theorem dX1_pack_37 : decode cX1_pack 37 = .ok (.iload_n 3, 1) := by decide +kernel
theorem dX1_pack_38 : decode cX1_pack 38 = .ok (.bipush 127, 2) := by decide +kernel
theorem dX1_pack_40 : decode cX1_pack 40 = .ok (.if_icmp .gt 7, 3) := by decide +kernel
theorem dX1_pack_43 : decode cX1_pack 43 = .ok (.iconst 1, 1) := by decide +kernel
theorem dX1_pack_44 : decode cX1_pack 44 = .ok (.goto 4, 3) := by decide +kernel
theorem dX1_pack_47 : decode cX1_pack 47 = .ok (.iconst 0, 1) := by decide +kernel
theorem dX1_pack_48 : decode cX1_pack 48 = .ok (.istore 4, 2) := by decide +kernel
theorem dX1_pack_50 : decode cX1_pack 50 = .ok (.aload_n 0, 1) := by decide +kernel
theorem dX1_pack_51 : decode cX1_pack 51 = .ok (.iload 4, 2) := by decide +kernel
theorem dX1_pack_53 : decode cX1_pack 53 = .ok (.ifCond .ne 7, 3) := by decide +kernel
theorem dX1_pack_56 : decode cX1_pack 56 = .ok (.iconst 1, 1) := by decide +kernel
theorem dX1_pack_57 : decode cX1_pack 57 = .ok (.goto 4, 3) := by decide +kernel
theorem dX1_pack_60 : decode cX1_pack 60 = .ok (.iconst 0, 1) := by decide +kernel
theorem dX1_pack_61 : decode cX1_pack 61 = .ok (.iconst 1, 1) := by decide +kernel
theorem dX1_pack_62 : decode cX1_pack 62 = .ok (.invokevirtual 24, 3) := by decide +kernel
theorem dX1_pack_65 : decode cX1_pack 65 = .ok (.ifCond .eq 5, 3) := by decide +kernel
theorem dX1_pack_68 : decode cX1_pack 68 = .ok (.iconst 0, 1) := by decide +kernel
theorem dX1_pack_69 : decode cX1_pack 69 = .ok (.ireturn, 1) := by decide +kernel
theorem dX1_pack_70 : decode cX1_pack 70 = .ok (.iload_n 3, 1) := by decide +kernel
theorem dX1_pack_71 : decode cX1_pack 71 = .ok (.i2l, 1) := by decide +kernel
theorem dX1_pack_72 : decode cX1_pack 72 = .ok (.bipush 32, 2) := by decide +kernel
theorem dX1_pack_74 : decode cX1_pack 74 = .ok (.lshl, 1) := by decide +kernel
theorem dX1_pack_75 : decode cX1_pack 75 = .ok (.iload_n 2, 1) := by decide +kernel
theorem dX1_pack_76 : decode cX1_pack 76 = .ok (.i2l, 1) := by decide +kernel
theorem dX1_pack_77 : decode cX1_pack 77 = .ok (.ldc2_w 118, 3) := by decide +kernel
theorem dX1_pack_80 : decode cX1_pack 80 = .ok (.land, 1) := by decide +kernel
theorem dX1_pack_81 : decode cX1_pack 81 = .ok (.lor, 1) := by decide +kernel
theorem dX1_pack_82 : decode cX1_pack 82 = .ok (.lstore 5, 2) := by decide +kernel
theorem dX1_pack_84 : decode cX1_pack 84 = .ok (.iload_n 1, 1) := by decide +kernel
theorem dX1_pack_85 : decode cX1_pack 85 = .ok (.bipush 7, 2) := by decide +kernel
theorem dX1_pack_87 : decode cX1_pack 87 = .ok (.if_icmp .le 11, 3) := by decide +kernel
theorem dX1_pack_90 : decode cX1_pack 90 = .ok (.iload_n 2, 1) := by decide +kernel
theorem dX1_pack_91 : decode cX1_pack 91 = .ok (.i2l, 1) := by decide +kernel
theorem dX1_pack_92 : decode cX1_pack 92 = .ok (.invokestatic 120, 3) := by decide +kernel
theorem dX1_pack_95 : decode cX1_pack 95 = .ok (.goto 4, 3) := by decide +kernel
theorem dX1_pack_98 : decode cX1_pack 98 = .ok (.iconst 0, 1) := by decide +kernel
theorem dX1_pack_99 : decode cX1_pack 99 = .ok (.istore 7, 2) := by decide +kernel
theorem dX1_pack_101 : decode cX1_pack 101 = .ok (.iload_n 1, 1) := by decide +kernel
theorem dX1_pack_102 : decode cX1_pack 102 = .ok (.tableswitch 352 1 11 #[58, 69, 69, 82, 126, 182, 194, 207, 247, 266, 266], 58) := by decide +kernel
theorem dX1_pack_160 : decode cX1_pack 160 = .ok (.aload_n 0, 1) := by decide +kernel
theorem dX1_pack_161 : decode cX1_pack 161 = .ok (.sipush 192, 3) := by decide +kernel
theorem dX1_pack_164 : decode cX1_pack 164 = .ok (.iconst 0, 1) := by decide +kernel
theorem dX1_pack_165 : decode cX1_pack 165 = .ok (.lconst 0, 1) := by decide +kernel
theorem dX1_pack_166 : decode cX1_pack 166 = .ok (.iconst (-1), 1) := by decide +kernel
theorem dX1_pack_167 : decode cX1_pack 167 = .ok (.invokevirtual 124, 3) := by decide +kernel
theorem dX1_pack_170 : decode cX1_pack 170 = .ok (.ireturn, 1) := by decide +kernel
theorem dX1_pack_171 : decode cX1_pack 171 = .ok (.aload_n 0, 1) := by decide +kernel
theorem dX1_pack_172 : decode cX1_pack 172 = .ok (.sipush 192, 3) := by decide +kernel
theorem dX1_pack_175 : decode cX1_pack 175 = .ok (.iload_n 1, 1) := by decide +kernel
theorem dX1_pack_176 : decode cX1_pack 176 = .ok (.iadd, 1) := by decide +kernel
theorem dX1_pack_177 : decode cX1_pack 177 = .ok (.iconst 0, 1) := by decide +kernel
theorem dX1_pack_178 : decode cX1_pack 178 = .ok (.lconst 0, 1) := by decide +kernel
theorem dX1_pack_179 : decode cX1_pack 179 = .ok (.iconst (-1), 1) := by decide +kernel
theorem dX1_pack_180 : decode cX1_pack 180 = .ok (.invokevirtual 124, 3) := by decide +kernel
theorem dX1_pack_183 : decode cX1_pack 183 = .ok (.ireturn, 1) := by decide +kernel
theorem dX1_pack_184 : decode cX1_pack 184 = .ok (.lload 5, 2) := by decide +kernel
theorem dX1_pack_186 : decode cX1_pack 186 = .ok (.bipush 7, 2) := by decide +kernel
theorem dX1_pack_188 : decode cX1_pack 188 = .ok (.lushr, 1) := by decide +kernel
theorem dX1_pack_189 : decode cX1_pack 189 = .ok (.lconst 0, 1) := by decide +kernel
theorem dX1_pack_190 : decode cX1_pack 190 = .ok (.lcmp, 1) := by decide +kernel
theorem dX1_pack_191 : decode cX1_pack 191 = .ok (.ifCond .ne 12, 3) := by decide +kernel
theorem dX1_pack_194 : decode cX1_pack 194 = .ok (.aload_n 0, 1) := by decide +kernel
theorem dX1_pack_195 : decode cX1_pack 195 = .ok (.iload_n 2, 1) := by decide +kernel
theorem dX1_pack_196 : decode cX1_pack 196 = .ok (.iconst 0, 1) := by decide +kernel
theorem dX1_pack_197 : decode cX1_pack 197 = .ok (.lconst 0, 1) := by decide +kernel
theorem dX1_pack_198 : decode cX1_pack 198 = .ok (.iconst (-1), 1) := by decide +kernel
theorem dX1_pack_199 : decode cX1_pack 199 = .ok (.invokevirtual 124, 3) := by decide +kernel
theorem dX1_pack_202 : decode cX1_pack 202 = .ok (.ireturn, 1) := by decide +kernel
theorem dX1_pack_203 : decode cX1_pack 203 = .ok (.aload_n 0, 1) := by decide +kernel
theorem dX1_pack_204 : decode cX1_pack 204 = .ok (.sipush 204, 3) := by decide +kernel
theorem dX1_pack_207 : decode cX1_pack 207 = .ok (.lload 5, 2) := by decide +kernel
theorem dX1_pack_209 : decode cX1_pack 209 = .ok (.invokestatic 120, 3) := by decide +kernel
theorem dX1_pack_212 : decode cX1_pack 212 = .ok (.invokestatic 128, 3) := by decide +kernel
theorem dX1_pack_215 : decode cX1_pack 215 = .ok (.iadd, 1) := by decide +kernel
theorem dX1_pack_216 : decode cX1_pack 216 = .ok (.lload 5, 2) := by decide +kernel
theorem dX1_pack_218 : decode cX1_pack 218 = .ok (.invokestatic 120, 3) := by decide +kernel
theorem dX1_pack_221 : decode cX1_pack 221 = .ok (.lload 5, 2) := by decide +kernel
theorem dX1_pack_223 : decode cX1_pack 223 = .ok (.iconst (-1), 1) := by decide +kernel
theorem dX1_pack_224 : decode cX1_pack 224 = .ok (.invokevirtual 124, 3) := by decide +kernel
theorem dX1_pack_227 : decode cX1_pack 227 = .ok (.ireturn, 1) := by decide +kernel
theorem dX1_pack_228 : decode cX1_pack 228 = .ok (.lload 5, 2) := by decide +kernel
theorem dX1_pack_230 : decode cX1_pack 230 = .ok (.ldc2_w 131, 3) := by decide +kernel
theorem dX1_pack_233 : decode cX1_pack 233 = .ok (.lcmp, 1) := by decide +kernel
theorem dX1_pack_234 : decode cX1_pack 234 = .ok (.ifCond .lt 25, 3) := by decide +kernel
theorem dX1_pack_237 : decode cX1_pack 237 = .ok (.lload 5, 2) := by decide +kernel
theorem dX1_pack_239 : decode cX1_pack 239 = .ok (.lconst 0, 1) := by decide +kernel
theorem dX1_pack_240 : decode cX1_pack 240 = .ok (.lcmp, 1) := by decide +kernel
theorem dX1_pack_241 : decode cX1_pack 241 = .ok (.ifCond .ge 18, 3) := by decide +kernel
theorem dX1_pack_244 : decode cX1_pack 244 = .ok (.aload_n 0, 1) := by decide +kernel
theorem dX1_pack_245 : decode cX1_pack 245 = .ok (.lload 5, 2) := by decide +kernel
theorem dX1_pack_247 : decode cX1_pack 247 = .ok (.l2i, 1) := by decide +kernel
theorem dX1_pack_248 : decode cX1_pack 248 = .ok (.sipush 256, 3) := by decide +kernel
theorem dX1_pack_251 : decode cX1_pack 251 = .ok (.iadd, 1) := by decide +kernel
theorem dX1_pack_252 : decode cX1_pack 252 = .ok (.iconst 0, 1) := by decide +kernel
theorem dX1_pack_253 : decode cX1_pack 253 = .ok (.lconst 0, 1) := by decide +kernel
theorem dX1_pack_254 : decode cX1_pack 254 = .ok (.iconst (-1), 1) := by decide +kernel
theorem dX1_pack_255 : decode cX1_pack 255 = .ok (.invokevirtual 124, 3) := by decide +kernel
theorem dX1_pack_258 : decode cX1_pack 258 = .ok (.ireturn, 1) := by decide +kernel
theorem dX1_pack_259 : decode cX1_pack 259 = .ok (.aload_n 0, 1) := by decide +kernel
theorem dX1_pack_260 : decode cX1_pack 260 = .ok (.sipush 208, 3) := by decide +kernel
theorem dX1_pack_263 : decode cX1_pack 263 = .ok (.lload 5, 2) := by decide +kernel
theorem dX1_pack_265 : decode cX1_pack 265 = .ok (.invokestatic 133, 3) := by decide +kernel
theorem dX1_pack_268 : decode cX1_pack 268 = .ok (.invokestatic 128, 3) := by decide +kernel
theorem dX1_pack_271 : decode cX1_pack 271 = .ok (.iadd, 1) := by decide +kernel
theorem dX1_pack_272 : decode cX1_pack 272 = .ok (.lload 5, 2) := by decide +kernel
theorem dX1_pack_274 : decode cX1_pack 274 = .ok (.invokestatic 133, 3) := by decide +kernel
theorem dX1_pack_277 : decode cX1_pack 277 = .ok (.lload 5, 2) := by decide +kernel
theorem dX1_pack_279 : decode cX1_pack 279 = .ok (.iconst (-1), 1) := by decide +kernel
theorem dX1_pack_280 : decode cX1_pack 280 = .ok (.invokevirtual 124, 3) := by decide +kernel
theorem dX1_pack_283 : decode cX1_pack 283 = .ok (.ireturn, 1) := by decide +kernel
theorem dX1_pack_284 : decode cX1_pack 284 = .ok (.aload_n 0, 1) := by decide +kernel
theorem dX1_pack_285 : decode cX1_pack 285 = .ok (.sipush 202, 3) := by decide +kernel
theorem dX1_pack_288 : decode cX1_pack 288 = .ok (.iconst 4, 1) := by decide +kernel
theorem dX1_pack_289 : decode cX1_pack 289 = .ok (.iload_n 2, 1) := by decide +kernel
theorem dX1_pack_290 : decode cX1_pack 290 = .ok (.i2l, 1) := by decide +kernel
theorem dX1_pack_291 : decode cX1_pack 291 = .ok (.iconst (-1), 1) := by decide +kernel
theorem dX1_pack_292 : decode cX1_pack 292 = .ok (.invokevirtual 124, 3) := by decide +kernel
theorem dX1_pack_295 : decode cX1_pack 295 = .ok (.ireturn, 1) := by decide +kernel
theorem dX1_pack_296 : decode cX1_pack 296 = .ok (.aload_n 0, 1) := by decide +kernel
theorem dX1_pack_297 : decode cX1_pack 297 = .ok (.sipush 203, 3) := by decide +kernel
theorem dX1_pack_300 : decode cX1_pack 300 = .ok (.bipush 8, 2) := by decide +kernel
theorem dX1_pack_302 : decode cX1_pack 302 = .ok (.lload 5, 2) := by decide +kernel
theorem dX1_pack_304 : decode cX1_pack 304 = .ok (.iconst (-1), 1) := by decide +kernel
theorem dX1_pack_305 : decode cX1_pack 305 = .ok (.invokevirtual 124, 3) := by decide +kernel
theorem dX1_pack_308 : decode cX1_pack 308 = .ok (.ireturn, 1) := by decide +kernel
theorem dX1_pack_309 : decode cX1_pack 309 = .ok (.iload_n 2, 1) := by decide +kernel
theorem dX1_pack_310 : decode cX1_pack 310 = .ok (.bipush 32, 2) := by decide +kernel
theorem dX1_pack_312 : decode cX1_pack 312 = .ok (.if_icmp .ge 18, 3) := by decide +kernel
theorem dX1_pack_315 : decode cX1_pack 315 = .ok (.aload_n 0, 1) := by decide +kernel
theorem dX1_pack_316 : decode cX1_pack 316 = .ok (.sipush 160, 3) := by decide +kernel
theorem dX1_pack_319 : decode cX1_pack 319 = .ok (.iload_n 2, 1) := by decide +kernel
theorem dX1_pack_320 : decode cX1_pack 320 = .ok (.iadd, 1) := by decide +kernel
theorem dX1_pack_321 : decode cX1_pack 321 = .ok (.iconst 0, 1) := by decide +kernel
theorem dX1_pack_322 : decode cX1_pack 322 = .ok (.lconst 0, 1) := by decide +kernel
theorem dX1_pack_323 : decode cX1_pack 323 = .ok (.iconst (-1), 1) := by decide +kernel
theorem dX1_pack_324 : decode cX1_pack 324 = .ok (.invokevirtual 124, 3) := by decide +kernel
theorem dX1_pack_327 : decode cX1_pack 327 = .ok (.goto 21, 3) := by decide +kernel
theorem dX1_pack_330 : decode cX1_pack 330 = .ok (.aload_n 0, 1) := by decide +kernel
theorem dX1_pack_331 : decode cX1_pack 331 = .ok (.sipush 217, 3) := by decide +kernel
theorem dX1_pack_334 : decode cX1_pack 334 = .ok (.iload 7, 2) := by decide +kernel
theorem dX1_pack_336 : decode cX1_pack 336 = .ok (.invokestatic 128, 3) := by decide +kernel
theorem dX1_pack_339 : decode cX1_pack 339 = .ok (.iadd, 1) := by decide +kernel
theorem dX1_pack_340 : decode cX1_pack 340 = .ok (.iload 7, 2) := by decide +kernel
theorem dX1_pack_342 : decode cX1_pack 342 = .ok (.iload_n 2, 1) := by decide +kernel
theorem dX1_pack_343 : decode cX1_pack 343 = .ok (.i2l, 1) := by decide +kernel
theorem dX1_pack_344 : decode cX1_pack 344 = .ok (.iconst (-1), 1) := by decide +kernel
theorem dX1_pack_345 : decode cX1_pack 345 = .ok (.invokevirtual 124, 3) := by decide +kernel
theorem dX1_pack_348 : decode cX1_pack 348 = .ok (.ireturn, 1) := by decide +kernel
theorem dX1_pack_349 : decode cX1_pack 349 = .ok (.aload_n 0, 1) := by decide +kernel
theorem dX1_pack_350 : decode cX1_pack 350 = .ok (.sipush 196, 3) := by decide +kernel
theorem dX1_pack_353 : decode cX1_pack 353 = .ok (.iload 7, 2) := by decide +kernel
theorem dX1_pack_355 : decode cX1_pack 355 = .ok (.invokestatic 128, 3) := by decide +kernel
theorem dX1_pack_358 : decode cX1_pack 358 = .ok (.iadd, 1) := by decide +kernel
theorem dX1_pack_359 : decode cX1_pack 359 = .ok (.iload 7, 2) := by decide +kernel
theorem dX1_pack_361 : decode cX1_pack 361 = .ok (.iload_n 2, 1) := by decide +kernel
theorem dX1_pack_362 : decode cX1_pack 362 = .ok (.i2l, 1) := by decide +kernel
theorem dX1_pack_363 : decode cX1_pack 363 = .ok (.iconst (-1), 1) := by decide +kernel
theorem dX1_pack_364 : decode cX1_pack 364 = .ok (.invokevirtual 124, 3) := by decide +kernel
theorem dX1_pack_367 : decode cX1_pack 367 = .ok (.ireturn, 1) := by decide +kernel
theorem dX1_pack_368 : decode cX1_pack 368 = .ok (.iload_n 1, 1) := by decide +kernel
theorem dX1_pack_369 : decode cX1_pack 369 = .ok (.bipush 10, 2) := by decide +kernel
theorem dX1_pack_371 : decode cX1_pack 371 = .ok (.if_icmp .ne 9, 3) := by decide +kernel
theorem dX1_pack_374 : decode cX1_pack 374 = .ok (.sipush 144, 3) := by decide +kernel
theorem dX1_pack_377 : decode cX1_pack 377 = .ok (.goto 6, 3) := by decide +kernel
theorem dX1_pack_380 : decode cX1_pack 380 = .ok (.sipush 128, 3) := by decide +kernel
theorem dX1_pack_383 : decode cX1_pack 383 = .ok (.istore 8, 2) := by decide +kernel
theorem dX1_pack_385 : decode cX1_pack 385 = .ok (.iload_n 1, 1) := by decide +kernel
theorem dX1_pack_386 : decode cX1_pack 386 = .ok (.bipush 10, 2) := by decide +kernel
theorem dX1_pack_388 : decode cX1_pack 388 = .ok (.if_icmp .ne 9, 3) := by decide +kernel
theorem dX1_pack_391 : decode cX1_pack 391 = .ok (.sipush 220, 3) := by decide +kernel
theorem dX1_pack_394 : decode cX1_pack 394 = .ok (.goto 6, 3) := by decide +kernel
theorem dX1_pack_397 : decode cX1_pack 397 = .ok (.sipush 222, 3) := by decide +kernel
theorem dX1_pack_400 : decode cX1_pack 400 = .ok (.istore 9, 2) := by decide +kernel
theorem dX1_pack_402 : decode cX1_pack 402 = .ok (.iload_n 2, 1) := by decide +kernel
theorem dX1_pack_403 : decode cX1_pack 403 = .ok (.bipush 16, 2) := by decide +kernel
theorem dX1_pack_405 : decode cX1_pack 405 = .ok (.if_icmp .ge 17, 3) := by decide +kernel
theorem dX1_pack_408 : decode cX1_pack 408 = .ok (.aload_n 0, 1) := by decide +kernel
theorem dX1_pack_409 : decode cX1_pack 409 = .ok (.iload 8, 2) := by decide +kernel
theorem dX1_pack_411 : decode cX1_pack 411 = .ok (.iload_n 2, 1) := by decide +kernel
theorem dX1_pack_412 : decode cX1_pack 412 = .ok (.iadd, 1) := by decide +kernel
theorem dX1_pack_413 : decode cX1_pack 413 = .ok (.iconst 0, 1) := by decide +kernel
theorem dX1_pack_414 : decode cX1_pack 414 = .ok (.lconst 0, 1) := by decide +kernel
theorem dX1_pack_415 : decode cX1_pack 415 = .ok (.iconst (-1), 1) := by decide +kernel
theorem dX1_pack_416 : decode cX1_pack 416 = .ok (.invokevirtual 124, 3) := by decide +kernel
theorem dX1_pack_419 : decode cX1_pack 419 = .ok (.goto 34, 3) := by decide +kernel
theorem dX1_pack_422 : decode cX1_pack 422 = .ok (.iload_n 2, 1) := by decide +kernel
theorem dX1_pack_423 : decode cX1_pack 423 = .ok (.ldc 136, 2) := by decide +kernel
theorem dX1_pack_425 : decode cX1_pack 425 = .ok (.if_icmp .ge 16, 3) := by decide +kernel
theorem dX1_pack_428 : decode cX1_pack 428 = .ok (.aload_n 0, 1) := by decide +kernel
theorem dX1_pack_429 : decode cX1_pack 429 = .ok (.iload 9, 2) := by decide +kernel
theorem dX1_pack_431 : decode cX1_pack 431 = .ok (.iconst 2, 1) := by decide +kernel
theorem dX1_pack_432 : decode cX1_pack 432 = .ok (.iload_n 2, 1) := by decide +kernel
theorem dX1_pack_433 : decode cX1_pack 433 = .ok (.i2l, 1) := by decide +kernel
theorem dX1_pack_434 : decode cX1_pack 434 = .ok (.iconst (-1), 1) := by decide +kernel
theorem dX1_pack_435 : decode cX1_pack 435 = .ok (.invokevirtual 124, 3) := by decide +kernel
theorem dX1_pack_438 : decode cX1_pack 438 = .ok (.goto 15, 3) := by decide +kernel
theorem dX1_pack_441 : decode cX1_pack 441 = .ok (.aload_n 0, 1) := by decide +kernel
theorem dX1_pack_442 : decode cX1_pack 442 = .ok (.iload 9, 2) := by decide +kernel
theorem dX1_pack_444 : decode cX1_pack 444 = .ok (.iconst 1, 1) := by decide +kernel
theorem dX1_pack_445 : decode cX1_pack 445 = .ok (.iadd, 1) := by decide +kernel
theorem dX1_pack_446 : decode cX1_pack 446 = .ok (.iconst 4, 1) := by decide +kernel
theorem dX1_pack_447 : decode cX1_pack 447 = .ok (.iload_n 2, 1) := by decide +kernel
theorem dX1_pack_448 : decode cX1_pack 448 = .ok (.i2l, 1) := by decide +kernel
theorem dX1_pack_449 : decode cX1_pack 449 = .ok (.iconst (-1), 1) := by decide +kernel
theorem dX1_pack_450 : decode cX1_pack 450 = .ok (.invokevirtual 124, 3) := by decide +kernel
theorem dX1_pack_453 : decode cX1_pack 453 = .ok (.ireturn, 1) := by decide +kernel
theorem dX1_pack_454 : decode cX1_pack 454 = .ok (.iload_n 2, 1) := by decide +kernel
theorem dX1_pack_455 : decode cX1_pack 455 = .ok (.iconst 1, 1) := by decide +kernel
theorem dX1_pack_456 : decode cX1_pack 456 = .ok (.if_icmp .eq 25, 3) := by decide +kernel
theorem dX1_pack_459 : decode cX1_pack 459 = .ok (.iload_n 2, 1) := by decide +kernel
theorem dX1_pack_460 : decode cX1_pack 460 = .ok (.iconst 2, 1) := by decide +kernel
theorem dX1_pack_461 : decode cX1_pack 461 = .ok (.if_icmp .eq 20, 3) := by decide +kernel
theorem dX1_pack_464 : decode cX1_pack 464 = .ok (.iload_n 2, 1) := by decide +kernel
theorem dX1_pack_465 : decode cX1_pack 465 = .ok (.iconst 4, 1) := by decide +kernel
theorem dX1_pack_466 : decode cX1_pack 466 = .ok (.if_icmp .eq 15, 3) := by decide +kernel
theorem dX1_pack_469 : decode cX1_pack 469 = .ok (.iload_n 2, 1) := by decide +kernel
theorem dX1_pack_470 : decode cX1_pack 470 = .ok (.bipush 8, 2) := by decide +kernel
theorem dX1_pack_472 : decode cX1_pack 472 = .ok (.if_icmp .eq 9, 3) := by decide +kernel
theorem dX1_pack_475 : decode cX1_pack 475 = .ok (.iload_n 2, 1) := by decide +kernel
theorem dX1_pack_476 : decode cX1_pack 476 = .ok (.bipush 16, 2) := by decide +kernel
theorem dX1_pack_478 : decode cX1_pack 478 = .ok (.if_icmp .ne 7, 3) := by decide +kernel
theorem dX1_pack_481 : decode cX1_pack 481 = .ok (.iconst 1, 1) := by decide +kernel
theorem dX1_pack_482 : decode cX1_pack 482 = .ok (.goto 4, 3) := by decide +kernel
theorem dX1_pack_485 : decode cX1_pack 485 = .ok (.iconst 0, 1) := by decide +kernel
theorem dX1_pack_486 : decode cX1_pack 486 = .ok (.istore 10, 2) := by decide +kernel
theorem dX1_pack_488 : decode cX1_pack 488 = .ok (.iload 10, 2) := by decide +kernel
theorem dX1_pack_490 : decode cX1_pack 490 = .ok (.ifCond .eq 33, 3) := by decide +kernel
theorem dX1_pack_493 : decode cX1_pack 493 = .ok (.aload_n 0, 1) := by decide +kernel
theorem dX1_pack_494 : decode cX1_pack 494 = .ok (.sipush 212, 3) := by decide +kernel
theorem dX1_pack_497 : decode cX1_pack 497 = .ok (.iload_n 2, 1) := by decide +kernel
theorem dX1_pack_498 : decode cX1_pack 498 = .ok (.bipush 16, 2) := by decide +kernel
theorem dX1_pack_500 : decode cX1_pack 500 = .ok (.if_icmp .ne 7, 3) := by decide +kernel
theorem dX1_pack_503 : decode cX1_pack 503 = .ok (.iconst 4, 1) := by decide +kernel
theorem dX1_pack_504 : decode cX1_pack 504 = .ok (.goto 7, 3) := by decide +kernel
theorem dX1_pack_507 : decode cX1_pack 507 = .ok (.iload_n 2, 1) := by decide +kernel
theorem dX1_pack_508 : decode cX1_pack 508 = .ok (.invokestatic 128, 3) := by decide +kernel
theorem dX1_pack_511 : decode cX1_pack 511 = .ok (.iadd, 1) := by decide +kernel
theorem dX1_pack_512 : decode cX1_pack 512 = .ok (.iconst 0, 1) := by decide +kernel
theorem dX1_pack_513 : decode cX1_pack 513 = .ok (.lconst 0, 1) := by decide +kernel
theorem dX1_pack_514 : decode cX1_pack 514 = .ok (.iload_n 3, 1) := by decide +kernel
theorem dX1_pack_515 : decode cX1_pack 515 = .ok (.sipush 255, 3) := by decide +kernel
theorem dX1_pack_518 : decode cX1_pack 518 = .ok (.iand, 1) := by decide +kernel
theorem dX1_pack_519 : decode cX1_pack 519 = .ok (.invokevirtual 124, 3) := by decide +kernel
theorem dX1_pack_522 : decode cX1_pack 522 = .ok (.ireturn, 1) := by decide +kernel
theorem dX1_pack_523 : decode cX1_pack 523 = .ok (.aload_n 0, 1) := by decide +kernel
theorem dX1_pack_524 : decode cX1_pack 524 = .ok (.sipush 199, 3) := by decide +kernel
theorem dX1_pack_527 : decode cX1_pack 527 = .ok (.iload 7, 2) := by decide +kernel
theorem dX1_pack_529 : decode cX1_pack 529 = .ok (.invokestatic 128, 3) := by decide +kernel
theorem dX1_pack_532 : decode cX1_pack 532 = .ok (.iadd, 1) := by decide +kernel
theorem dX1_pack_533 : decode cX1_pack 533 = .ok (.iload 7, 2) := by decide +kernel
theorem dX1_pack_535 : decode cX1_pack 535 = .ok (.iload_n 2, 1) := by decide +kernel
theorem dX1_pack_536 : decode cX1_pack 536 = .ok (.i2l, 1) := by decide +kernel
theorem dX1_pack_537 : decode cX1_pack 537 = .ok (.iload_n 3, 1) := by decide +kernel
theorem dX1_pack_538 : decode cX1_pack 538 = .ok (.sipush 255, 3) := by decide +kernel
theorem dX1_pack_541 : decode cX1_pack 541 = .ok (.iand, 1) := by decide +kernel
theorem dX1_pack_542 : decode cX1_pack 542 = .ok (.invokevirtual 124, 3) := by decide +kernel
theorem dX1_pack_545 : decode cX1_pack 545 = .ok (.ireturn, 1) := by decide +kernel
end
section
theorem dL_feed_0 : decode cL_feed 0 = .ok (.aload_n 2, 1) := by decide +kernel
theorem dL_feed_1 : decode cL_feed 1 = .ok (.iconst 0, 1) := by decide +kernel
theorem dL_feed_2 : decode cL_feed 2 = .ok (.aload_n 0, 1) := by decide +kernel
theorem dL_feed_3 : decode cL_feed 3 = .ok (.iload_n 1, 1) := by decide +kernel
theorem dL_feed_4 : decode cL_feed 4 = .ok (.invokevirtual 7, 3) := by decide +kernel
theorem dL_feed_7 : decode cL_feed 7 = .ok (.i2l, 1) := by decide +kernel
theorem dL_feed_8 : decode cL_feed 8 = .ok (.lastore, 1) := by decide +kernel
theorem dL_feed_9 : decode cL_feed 9 = .ok (.goto 9, 3) := by decide +kernel
theorem dL_feed_12 : decode cL_feed 12 = .ok (.astore_n 3, 1) := by decide +kernel
theorem dL_feed_13 : decode cL_feed 13 = .ok (.iconst 1, 1) := by decide +kernel
theorem dL_feed_14 : decode cL_feed 14 = .ok (.ireturn, 1) := by decide +kernel
theorem dL_feed_15 : decode cL_feed 15 = .ok (.astore_n 3, 1) := by decide +kernel
theorem dL_feed_16 : decode cL_feed 16 = .ok (.iconst 2, 1) := by decide +kernel
theorem dL_feed_17 : decode cL_feed 17 = .ok (.ireturn, 1) := by decide +kernel
theorem dL_feed_18 : decode cL_feed 18 = .ok (.iconst 0, 1) := by decide +kernel
theorem dL_feed_19 : decode cL_feed 19 = .ok (.ireturn, 1) := by decide +kernel
theorem dL_put_0 : decode cL_put 0 = .ok (.aload 4, 2) := by decide +kernel
theorem dL_put_2 : decode cL_put 2 = .ok (.iconst 0, 1) := by decide +kernel
theorem dL_put_3 : decode cL_put 3 = .ok (.aload_n 0, 1) := by decide +kernel
theorem dL_put_4 : decode cL_put 4 = .ok (.lload_n 1, 1) := by decide +kernel
theorem dL_put_5 : decode cL_put 5 = .ok (.iload_n 3, 1) := by decide +kernel
theorem dL_put_6 : decode cL_put 6 = .ok (.invokevirtual 17, 3) := by decide +kernel
theorem dL_put_9 : decode cL_put 9 = .ok (.i2l, 1) := by decide +kernel
theorem dL_put_10 : decode cL_put 10 = .ok (.lastore, 1) := by decide +kernel
theorem dL_put_11 : decode cL_put 11 = .ok (.goto 11, 3) := by decide +kernel
theorem dL_put_14 : decode cL_put 14 = .ok (.astore 5, 2) := by decide +kernel
theorem dL_put_16 : decode cL_put 16 = .ok (.iconst 1, 1) := by decide +kernel
theorem dL_put_17 : decode cL_put 17 = .ok (.ireturn, 1) := by decide +kernel
theorem dL_put_18 : decode cL_put 18 = .ok (.astore 5, 2) := by decide +kernel
theorem dL_put_20 : decode cL_put 20 = .ok (.iconst 2, 1) := by decide +kernel
theorem dL_put_21 : decode cL_put 21 = .ok (.ireturn, 1) := by decide +kernel
theorem dL_put_22 : decode cL_put 22 = .ok (.iconst 0, 1) := by decide +kernel
theorem dL_put_23 : decode cL_put 23 = .ok (.ireturn, 1) := by decide +kernel
theorem dL_cut_0 : decode cL_cut 0 = .ok (.aload_n 2, 1) := by decide +kernel
theorem dL_cut_1 : decode cL_cut 1 = .ok (.iconst 0, 1) := by decide +kernel
theorem dL_cut_2 : decode cL_cut 2 = .ok (.aload_n 0, 1) := by decide +kernel
theorem dL_cut_3 : decode cL_cut 3 = .ok (.iload_n 1, 1) := by decide +kernel
theorem dL_cut_4 : decode cL_cut 4 = .ok (.invokevirtual 21, 3) := by decide +kernel
theorem dL_cut_7 : decode cL_cut 7 = .ok (.i2l, 1) := by decide +kernel
theorem dL_cut_8 : decode cL_cut 8 = .ok (.lastore, 1) := by decide +kernel
theorem dL_cut_9 : decode cL_cut 9 = .ok (.goto 6, 3) := by decide +kernel
theorem dL_cut_12 : decode cL_cut 12 = .ok (.astore_n 3, 1) := by decide +kernel
theorem dL_cut_13 : decode cL_cut 13 = .ok (.iconst 1, 1) := by decide +kernel
theorem dL_cut_14 : decode cL_cut 14 = .ok (.ireturn, 1) := by decide +kernel
theorem dL_cut_15 : decode cL_cut 15 = .ok (.iconst 0, 1) := by decide +kernel
theorem dL_cut_16 : decode cL_cut 16 = .ok (.ireturn, 1) := by decide +kernel
theorem dL_byteAt_0 : decode cL_byteAt 0 = .ok (.aload_n 2, 1) := by decide +kernel
theorem dL_byteAt_1 : decode cL_byteAt 1 = .ok (.iconst 0, 1) := by decide +kernel
theorem dL_byteAt_2 : decode cL_byteAt 2 = .ok (.aload_n 0, 1) := by decide +kernel
theorem dL_byteAt_3 : decode cL_byteAt 3 = .ok (.iload_n 1, 1) := by decide +kernel
theorem dL_byteAt_4 : decode cL_byteAt 4 = .ok (.invokevirtual 24, 3) := by decide +kernel
theorem dL_byteAt_7 : decode cL_byteAt 7 = .ok (.i2l, 1) := by decide +kernel
theorem dL_byteAt_8 : decode cL_byteAt 8 = .ok (.lastore, 1) := by decide +kernel
theorem dL_byteAt_9 : decode cL_byteAt 9 = .ok (.goto 6, 3) := by decide +kernel
theorem dL_byteAt_12 : decode cL_byteAt 12 = .ok (.astore_n 3, 1) := by decide +kernel
theorem dL_byteAt_13 : decode cL_byteAt 13 = .ok (.iconst 1, 1) := by decide +kernel
theorem dL_byteAt_14 : decode cL_byteAt 14 = .ok (.ireturn, 1) := by decide +kernel
theorem dL_byteAt_15 : decode cL_byteAt 15 = .ok (.iconst 0, 1) := by decide +kernel
theorem dL_byteAt_16 : decode cL_byteAt 16 = .ok (.ireturn, 1) := by decide +kernel
theorem dL_remaining_0 : decode cL_remaining 0 = .ok (.aload_n 2, 1) := by decide +kernel
theorem dL_remaining_1 : decode cL_remaining 1 = .ok (.iconst 0, 1) := by decide +kernel
theorem dL_remaining_2 : decode cL_remaining 2 = .ok (.aload_n 0, 1) := by decide +kernel
theorem dL_remaining_3 : decode cL_remaining 3 = .ok (.iload_n 1, 1) := by decide +kernel
theorem dL_remaining_4 : decode cL_remaining 4 = .ok (.invokevirtual 27, 3) := by decide +kernel
theorem dL_remaining_7 : decode cL_remaining 7 = .ok (.lastore, 1) := by decide +kernel
theorem dL_remaining_8 : decode cL_remaining 8 = .ok (.goto 6, 3) := by decide +kernel
theorem dL_remaining_11 : decode cL_remaining 11 = .ok (.astore_n 3, 1) := by decide +kernel
theorem dL_remaining_12 : decode cL_remaining 12 = .ok (.iconst 1, 1) := by decide +kernel
theorem dL_remaining_13 : decode cL_remaining 13 = .ok (.ireturn, 1) := by decide +kernel
theorem dL_remaining_14 : decode cL_remaining 14 = .ok (.iconst 0, 1) := by decide +kernel
theorem dL_remaining_15 : decode cL_remaining 15 = .ok (.ireturn, 1) := by decide +kernel
theorem dL_pack_0 : decode cL_pack 0 = .ok (.aload 4, 2) := by decide +kernel
theorem dL_pack_2 : decode cL_pack 2 = .ok (.iconst 0, 1) := by decide +kernel
theorem dL_pack_3 : decode cL_pack 3 = .ok (.aload_n 0, 1) := by decide +kernel
theorem dL_pack_4 : decode cL_pack 4 = .ok (.iload_n 1, 1) := by decide +kernel
theorem dL_pack_5 : decode cL_pack 5 = .ok (.iload_n 2, 1) := by decide +kernel
theorem dL_pack_6 : decode cL_pack 6 = .ok (.iload_n 3, 1) := by decide +kernel
theorem dL_pack_7 : decode cL_pack 7 = .ok (.invokevirtual 31, 3) := by decide +kernel
theorem dL_pack_10 : decode cL_pack 10 = .ok (.i2l, 1) := by decide +kernel
theorem dL_pack_11 : decode cL_pack 11 = .ok (.lastore, 1) := by decide +kernel
theorem dL_pack_12 : decode cL_pack 12 = .ok (.goto 11, 3) := by decide +kernel
theorem dL_pack_15 : decode cL_pack 15 = .ok (.astore 5, 2) := by decide +kernel
theorem dL_pack_17 : decode cL_pack 17 = .ok (.iconst 1, 1) := by decide +kernel
theorem dL_pack_18 : decode cL_pack 18 = .ok (.ireturn, 1) := by decide +kernel
theorem dL_pack_19 : decode cL_pack 19 = .ok (.astore 5, 2) := by decide +kernel
theorem dL_pack_21 : decode cL_pack 21 = .ok (.iconst 2, 1) := by decide +kernel
theorem dL_pack_22 : decode cL_pack 22 = .ok (.ireturn, 1) := by decide +kernel
theorem dL_pack_23 : decode cL_pack 23 = .ok (.iconst 0, 1) := by decide +kernel
theorem dL_pack_24 : decode cL_pack 24 = .ok (.ireturn, 1) := by decide +kernel
theorem dL_law_0 : decode cL_law 0 = .ok (.new 8, 3) := by decide +kernel
theorem dL_law_3 : decode cL_law 3 = .ok (.dup, 1) := by decide +kernel
theorem dL_law_4 : decode cL_law 4 = .ok (.invokespecial 35, 3) := by decide +kernel
theorem dL_law_7 : decode cL_law 7 = .ok (.astore_n 1, 1) := by decide +kernel
theorem dL_law_8 : decode cL_law 8 = .ok (.new 36, 3) := by decide +kernel
theorem dL_law_11 : decode cL_law 11 = .ok (.dup, 1) := by decide +kernel
theorem dL_law_12 : decode cL_law 12 = .ok (.invokespecial 38, 3) := by decide +kernel
theorem dL_law_15 : decode cL_law 15 = .ok (.astore_n 2, 1) := by decide +kernel
theorem dL_law_16 : decode cL_law 16 = .ok (.iconst 1, 1) := by decide +kernel
theorem dL_law_17 : decode cL_law 17 = .ok (.newarray .long, 2) := by decide +kernel
theorem dL_law_19 : decode cL_law 19 = .ok (.astore_n 3, 1) := by decide +kernel
theorem dL_law_20 : decode cL_law 20 = .ok (.iconst 0, 1) := by decide +kernel
theorem dL_law_21 : decode cL_law 21 = .ok (.istore 4, 2) := by decide +kernel
theorem dL_law_23 : decode cL_law 23 = .ok (.iload 4, 2) := by decide +kernel
theorem dL_law_25 : decode cL_law 25 = .ok (.aload_n 0, 1) := by decide +kernel
theorem dL_law_26 : decode cL_law 26 = .ok (.arraylength, 1) := by decide +kernel
theorem dL_law_27 : decode cL_law 27 = .ok (.iconst 4, 1) := by decide +kernel
theorem dL_law_28 : decode cL_law 28 = .ok (.isub, 1) := by decide +kernel
theorem dL_law_29 : decode cL_law 29 = .ok (.if_icmp .gt 621, 3) := by decide +kernel
theorem dL_law_32 : decode cL_law 32 = .ok (.aload_n 0, 1) := by decide +kernel
theorem dL_law_33 : decode cL_law 33 = .ok (.iload 4, 2) := by decide +kernel
theorem dL_law_35 : decode cL_law 35 = .ok (.iaload, 1) := by decide +kernel
theorem dL_law_36 : decode cL_law 36 = .ok (.bipush 15, 2) := by decide +kernel
theorem dL_law_38 : decode cL_law 38 = .ok (.iand, 1) := by decide +kernel
theorem dL_law_39 : decode cL_law 39 = .ok (.tableswitch 605 0 14 #[73, 129, 229, 285, 341, 354, 367, 380, 393, 406, 431, 444, 499, 512, 525], 73) := by decide +kernel
theorem dL_law_112 : decode cL_law 112 = .ok (.aload_n 1, 1) := by decide +kernel
theorem dL_law_113 : decode cL_law 113 = .ok (.aload_n 0, 1) := by decide +kernel
theorem dL_law_114 : decode cL_law 114 = .ok (.iload 4, 2) := by decide +kernel
theorem dL_law_116 : decode cL_law 116 = .ok (.iconst 1, 1) := by decide +kernel
theorem dL_law_117 : decode cL_law 117 = .ok (.iadd, 1) := by decide +kernel
theorem dL_law_118 : decode cL_law 118 = .ok (.iaload, 1) := by decide +kernel
theorem dL_law_119 : decode cL_law 119 = .ok (.aload_n 3, 1) := by decide +kernel
theorem dL_law_120 : decode cL_law 120 = .ok (.invokestatic 39, 3) := by decide +kernel
theorem dL_law_123 : decode cL_law 123 = .ok (.istore 5, 2) := by decide +kernel
theorem dL_law_125 : decode cL_law 125 = .ok (.aload_n 2, 1) := by decide +kernel
theorem dL_law_126 : decode cL_law 126 = .ok (.aload_n 0, 1) := by decide +kernel
theorem dL_law_127 : decode cL_law 127 = .ok (.iload 4, 2) := by decide +kernel
theorem dL_law_129 : decode cL_law 129 = .ok (.iconst 1, 1) := by decide +kernel
theorem dL_law_130 : decode cL_law 130 = .ok (.iadd, 1) := by decide +kernel
theorem dL_law_131 : decode cL_law 131 = .ok (.iaload, 1) := by decide +kernel
theorem dL_law_132 : decode cL_law 132 = .ok (.invokevirtual 44, 3) := by decide +kernel
theorem dL_law_135 : decode cL_law 135 = .ok (.istore 6, 2) := by decide +kernel
theorem dL_law_137 : decode cL_law 137 = .ok (.aload_n 2, 1) := by decide +kernel
theorem dL_law_138 : decode cL_law 138 = .ok (.invokevirtual 45, 3) := by decide +kernel
theorem dL_law_141 : decode cL_law 141 = .ok (.iload 5, 2) := by decide +kernel
theorem dL_law_143 : decode cL_law 143 = .ok (.if_icmp .eq 5, 3) := by decide +kernel
theorem dL_law_146 : decode cL_law 146 = .ok (.iconst 0, 1) := by decide +kernel
theorem dL_law_147 : decode cL_law 147 = .ok (.ireturn, 1) := by decide +kernel
theorem dL_law_148 : decode cL_law 148 = .ok (.iload 5, 2) := by decide +kernel
theorem dL_law_150 : decode cL_law 150 = .ok (.ifCond .ne 15, 3) := by decide +kernel
theorem dL_law_153 : decode cL_law 153 = .ok (.aload_n 3, 1) := by decide +kernel
theorem dL_law_154 : decode cL_law 154 = .ok (.iconst 0, 1) := by decide +kernel
theorem dL_law_155 : decode cL_law 155 = .ok (.laload, 1) := by decide +kernel
theorem dL_law_156 : decode cL_law 156 = .ok (.iload 6, 2) := by decide +kernel
theorem dL_law_158 : decode cL_law 158 = .ok (.i2l, 1) := by decide +kernel
theorem dL_law_159 : decode cL_law 159 = .ok (.lcmp, 1) := by decide +kernel
theorem dL_law_160 : decode cL_law 160 = .ok (.ifCond .eq 5, 3) := by decide +kernel
theorem dL_law_163 : decode cL_law 163 = .ok (.iconst 0, 1) := by decide +kernel
theorem dL_law_164 : decode cL_law 164 = .ok (.ireturn, 1) := by decide +kernel
theorem dL_law_165 : decode cL_law 165 = .ok (.goto 479, 3) := by decide +kernel
theorem dL_law_168 : decode cL_law 168 = .ok (.aload_n 1, 1) := by decide +kernel
theorem dL_law_169 : decode cL_law 169 = .ok (.aload_n 0, 1) := by decide +kernel
theorem dL_law_170 : decode cL_law 170 = .ok (.iload 4, 2) := by decide +kernel
theorem dL_law_172 : decode cL_law 172 = .ok (.iconst 1, 1) := by decide +kernel
theorem dL_law_173 : decode cL_law 173 = .ok (.iadd, 1) := by decide +kernel
theorem dL_law_174 : decode cL_law 174 = .ok (.iaload, 1) := by decide +kernel
theorem dL_law_175 : decode cL_law 175 = .ok (.i2l, 1) := by decide +kernel
theorem dL_law_176 : decode cL_law 176 = .ok (.bipush 32, 2) := by decide +kernel
theorem dL_law_178 : decode cL_law 178 = .ok (.lshl, 1) := by decide +kernel
theorem dL_law_179 : decode cL_law 179 = .ok (.aload_n 0, 1) := by decide +kernel
theorem dL_law_180 : decode cL_law 180 = .ok (.iload 4, 2) := by decide +kernel
theorem dL_law_182 : decode cL_law 182 = .ok (.iconst 2, 1) := by decide +kernel
theorem dL_law_183 : decode cL_law 183 = .ok (.iadd, 1) := by decide +kernel
theorem dL_law_184 : decode cL_law 184 = .ok (.iaload, 1) := by decide +kernel
theorem dL_law_185 : decode cL_law 185 = .ok (.i2l, 1) := by decide +kernel
theorem dL_law_186 : decode cL_law 186 = .ok (.ldc2_w 49, 3) := by decide +kernel
theorem dL_law_189 : decode cL_law 189 = .ok (.land, 1) := by decide +kernel
theorem dL_law_190 : decode cL_law 190 = .ok (.lor, 1) := by decide +kernel
theorem dL_law_191 : decode cL_law 191 = .ok (.aload_n 0, 1) := by decide +kernel
theorem dL_law_192 : decode cL_law 192 = .ok (.iload 4, 2) := by decide +kernel
theorem dL_law_194 : decode cL_law 194 = .ok (.iconst 3, 1) := by decide +kernel
theorem dL_law_195 : decode cL_law 195 = .ok (.iadd, 1) := by decide +kernel
theorem dL_law_196 : decode cL_law 196 = .ok (.iaload, 1) := by decide +kernel
theorem dL_law_197 : decode cL_law 197 = .ok (.aload_n 3, 1) := by decide +kernel
theorem dL_law_198 : decode cL_law 198 = .ok (.invokestatic 51, 3) := by decide +kernel
theorem dL_law_201 : decode cL_law 201 = .ok (.istore 5, 2) := by decide +kernel
theorem dL_law_203 : decode cL_law 203 = .ok (.aload_n 2, 1) := by decide +kernel
theorem dL_law_204 : decode cL_law 204 = .ok (.aload_n 0, 1) := by decide +kernel
theorem dL_law_205 : decode cL_law 205 = .ok (.iload 4, 2) := by decide +kernel
theorem dL_law_207 : decode cL_law 207 = .ok (.iconst 1, 1) := by decide +kernel
theorem dL_law_208 : decode cL_law 208 = .ok (.iadd, 1) := by decide +kernel
theorem dL_law_209 : decode cL_law 209 = .ok (.iaload, 1) := by decide +kernel
theorem dL_law_210 : decode cL_law 210 = .ok (.i2l, 1) := by decide +kernel
theorem dL_law_211 : decode cL_law 211 = .ok (.bipush 32, 2) := by decide +kernel
theorem dL_law_213 : decode cL_law 213 = .ok (.lshl, 1) := by decide +kernel
theorem dL_law_214 : decode cL_law 214 = .ok (.aload_n 0, 1) := by decide +kernel
theorem dL_law_215 : decode cL_law 215 = .ok (.iload 4, 2) := by decide +kernel
theorem dL_law_217 : decode cL_law 217 = .ok (.iconst 2, 1) := by decide +kernel
theorem dL_law_218 : decode cL_law 218 = .ok (.iadd, 1) := by decide +kernel
theorem dL_law_219 : decode cL_law 219 = .ok (.iaload, 1) := by decide +kernel
theorem dL_law_220 : decode cL_law 220 = .ok (.i2l, 1) := by decide +kernel
theorem dL_law_221 : decode cL_law 221 = .ok (.ldc2_w 49, 3) := by decide +kernel
theorem dL_law_224 : decode cL_law 224 = .ok (.land, 1) := by decide +kernel
theorem dL_law_225 : decode cL_law 225 = .ok (.lor, 1) := by decide +kernel
theorem dL_law_226 : decode cL_law 226 = .ok (.aload_n 0, 1) := by decide +kernel
theorem dL_law_227 : decode cL_law 227 = .ok (.iload 4, 2) := by decide +kernel
theorem dL_law_229 : decode cL_law 229 = .ok (.iconst 3, 1) := by decide +kernel
theorem dL_law_230 : decode cL_law 230 = .ok (.iadd, 1) := by decide +kernel
theorem dL_law_231 : decode cL_law 231 = .ok (.iaload, 1) := by decide +kernel
theorem dL_law_232 : decode cL_law 232 = .ok (.invokevirtual 54, 3) := by decide +kernel
theorem dL_law_235 : decode cL_law 235 = .ok (.istore 6, 2) := by decide +kernel
theorem dL_law_237 : decode cL_law 237 = .ok (.aload_n 2, 1) := by decide +kernel
theorem dL_law_238 : decode cL_law 238 = .ok (.invokevirtual 45, 3) := by decide +kernel
theorem dL_law_241 : decode cL_law 241 = .ok (.iload 5, 2) := by decide +kernel
theorem dL_law_243 : decode cL_law 243 = .ok (.if_icmp .eq 5, 3) := by decide +kernel
theorem dL_law_246 : decode cL_law 246 = .ok (.iconst 0, 1) := by decide +kernel
theorem dL_law_247 : decode cL_law 247 = .ok (.ireturn, 1) := by decide +kernel
theorem dL_law_248 : decode cL_law 248 = .ok (.iload 5, 2) := by decide +kernel
theorem dL_law_250 : decode cL_law 250 = .ok (.ifCond .ne 15, 3) := by decide +kernel
theorem dL_law_253 : decode cL_law 253 = .ok (.aload_n 3, 1) := by decide +kernel
theorem dL_law_254 : decode cL_law 254 = .ok (.iconst 0, 1) := by decide +kernel
theorem dL_law_255 : decode cL_law 255 = .ok (.laload, 1) := by decide +kernel
theorem dL_law_256 : decode cL_law 256 = .ok (.iload 6, 2) := by decide +kernel
theorem dL_law_258 : decode cL_law 258 = .ok (.i2l, 1) := by decide +kernel
theorem dL_law_259 : decode cL_law 259 = .ok (.lcmp, 1) := by decide +kernel
theorem dL_law_260 : decode cL_law 260 = .ok (.ifCond .eq 5, 3) := by decide +kernel
theorem dL_law_263 : decode cL_law 263 = .ok (.iconst 0, 1) := by decide +kernel
theorem dL_law_264 : decode cL_law 264 = .ok (.ireturn, 1) := by decide +kernel
theorem dL_law_265 : decode cL_law 265 = .ok (.goto 379, 3) := by decide +kernel
theorem dL_law_268 : decode cL_law 268 = .ok (.aload_n 1, 1) := by decide +kernel
theorem dL_law_269 : decode cL_law 269 = .ok (.aload_n 0, 1) := by decide +kernel
theorem dL_law_270 : decode cL_law 270 = .ok (.iload 4, 2) := by decide +kernel
theorem dL_law_272 : decode cL_law 272 = .ok (.iconst 1, 1) := by decide +kernel
theorem dL_law_273 : decode cL_law 273 = .ok (.iadd, 1) := by decide +kernel
theorem dL_law_274 : decode cL_law 274 = .ok (.iaload, 1) := by decide +kernel
theorem dL_law_275 : decode cL_law 275 = .ok (.aload_n 3, 1) := by decide +kernel
theorem dL_law_276 : decode cL_law 276 = .ok (.invokestatic 55, 3) := by decide +kernel
theorem dL_law_279 : decode cL_law 279 = .ok (.istore 5, 2) := by decide +kernel
theorem dL_law_281 : decode cL_law 281 = .ok (.aload_n 2, 1) := by decide +kernel
theorem dL_law_282 : decode cL_law 282 = .ok (.aload_n 0, 1) := by decide +kernel
theorem dL_law_283 : decode cL_law 283 = .ok (.iload 4, 2) := by decide +kernel
theorem dL_law_285 : decode cL_law 285 = .ok (.iconst 1, 1) := by decide +kernel
theorem dL_law_286 : decode cL_law 286 = .ok (.iadd, 1) := by decide +kernel
theorem dL_law_287 : decode cL_law 287 = .ok (.iaload, 1) := by decide +kernel
theorem dL_law_288 : decode cL_law 288 = .ok (.invokevirtual 57, 3) := by decide +kernel
theorem dL_law_291 : decode cL_law 291 = .ok (.istore 6, 2) := by decide +kernel
theorem dL_law_293 : decode cL_law 293 = .ok (.aload_n 2, 1) := by decide +kernel
theorem dL_law_294 : decode cL_law 294 = .ok (.invokevirtual 45, 3) := by decide +kernel
theorem dL_law_297 : decode cL_law 297 = .ok (.iload 5, 2) := by decide +kernel
theorem dL_law_299 : decode cL_law 299 = .ok (.if_icmp .eq 5, 3) := by decide +kernel
theorem dL_law_302 : decode cL_law 302 = .ok (.iconst 0, 1) := by decide +kernel
theorem dL_law_303 : decode cL_law 303 = .ok (.ireturn, 1) := by decide +kernel
theorem dL_law_304 : decode cL_law 304 = .ok (.iload 5, 2) := by decide +kernel
theorem dL_law_306 : decode cL_law 306 = .ok (.ifCond .ne 15, 3) := by decide +kernel
theorem dL_law_309 : decode cL_law 309 = .ok (.aload_n 3, 1) := by decide +kernel
theorem dL_law_310 : decode cL_law 310 = .ok (.iconst 0, 1) := by decide +kernel
theorem dL_law_311 : decode cL_law 311 = .ok (.laload, 1) := by decide +kernel
theorem dL_law_312 : decode cL_law 312 = .ok (.iload 6, 2) := by decide +kernel
theorem dL_law_314 : decode cL_law 314 = .ok (.i2l, 1) := by decide +kernel
theorem dL_law_315 : decode cL_law 315 = .ok (.lcmp, 1) := by decide +kernel
theorem dL_law_316 : decode cL_law 316 = .ok (.ifCond .eq 5, 3) := by decide +kernel
theorem dL_law_319 : decode cL_law 319 = .ok (.iconst 0, 1) := by decide +kernel
theorem dL_law_320 : decode cL_law 320 = .ok (.ireturn, 1) := by decide +kernel
theorem dL_law_321 : decode cL_law 321 = .ok (.goto 323, 3) := by decide +kernel
theorem dL_law_324 : decode cL_law 324 = .ok (.aload_n 1, 1) := by decide +kernel
theorem dL_law_325 : decode cL_law 325 = .ok (.aload_n 0, 1) := by decide +kernel
theorem dL_law_326 : decode cL_law 326 = .ok (.iload 4, 2) := by decide +kernel
theorem dL_law_328 : decode cL_law 328 = .ok (.iconst 1, 1) := by decide +kernel
theorem dL_law_329 : decode cL_law 329 = .ok (.iadd, 1) := by decide +kernel
theorem dL_law_330 : decode cL_law 330 = .ok (.iaload, 1) := by decide +kernel
theorem dL_law_331 : decode cL_law 331 = .ok (.aload_n 3, 1) := by decide +kernel
theorem dL_law_332 : decode cL_law 332 = .ok (.invokestatic 58, 3) := by decide +kernel
theorem dL_law_335 : decode cL_law 335 = .ok (.istore 5, 2) := by decide +kernel
theorem dL_law_337 : decode cL_law 337 = .ok (.aload_n 2, 1) := by decide +kernel
theorem dL_law_338 : decode cL_law 338 = .ok (.aload_n 0, 1) := by decide +kernel
theorem dL_law_339 : decode cL_law 339 = .ok (.iload 4, 2) := by decide +kernel
theorem dL_law_341 : decode cL_law 341 = .ok (.iconst 1, 1) := by decide +kernel
theorem dL_law_342 : decode cL_law 342 = .ok (.iadd, 1) := by decide +kernel
theorem dL_law_343 : decode cL_law 343 = .ok (.iaload, 1) := by decide +kernel
theorem dL_law_344 : decode cL_law 344 = .ok (.invokevirtual 60, 3) := by decide +kernel
theorem dL_law_347 : decode cL_law 347 = .ok (.istore 6, 2) := by decide +kernel
theorem dL_law_349 : decode cL_law 349 = .ok (.aload_n 2, 1) := by decide +kernel
theorem dL_law_350 : decode cL_law 350 = .ok (.invokevirtual 45, 3) := by decide +kernel
theorem dL_law_353 : decode cL_law 353 = .ok (.iload 5, 2) := by decide +kernel
theorem dL_law_355 : decode cL_law 355 = .ok (.if_icmp .eq 5, 3) := by decide +kernel
theorem dL_law_358 : decode cL_law 358 = .ok (.iconst 0, 1) := by decide +kernel
theorem dL_law_359 : decode cL_law 359 = .ok (.ireturn, 1) := by decide +kernel
theorem dL_law_360 : decode cL_law 360 = .ok (.iload 5, 2) := by decide +kernel
theorem dL_law_362 : decode cL_law 362 = .ok (.ifCond .ne 15, 3) := by decide +kernel
theorem dL_law_365 : decode cL_law 365 = .ok (.aload_n 3, 1) := by decide +kernel
theorem dL_law_366 : decode cL_law 366 = .ok (.iconst 0, 1) := by decide +kernel
theorem dL_law_367 : decode cL_law 367 = .ok (.laload, 1) := by decide +kernel
theorem dL_law_368 : decode cL_law 368 = .ok (.iload 6, 2) := by decide +kernel
theorem dL_law_370 : decode cL_law 370 = .ok (.i2l, 1) := by decide +kernel
theorem dL_law_371 : decode cL_law 371 = .ok (.lcmp, 1) := by decide +kernel
theorem dL_law_372 : decode cL_law 372 = .ok (.ifCond .eq 5, 3) := by decide +kernel
theorem dL_law_375 : decode cL_law 375 = .ok (.iconst 0, 1) := by decide +kernel
theorem dL_law_376 : decode cL_law 376 = .ok (.ireturn, 1) := by decide +kernel
theorem dL_law_377 : decode cL_law 377 = .ok (.goto 267, 3) := by decide +kernel
theorem dL_law_380 : decode cL_law 380 = .ok (.aload_n 1, 1) := by decide +kernel
theorem dL_law_381 : decode cL_law 381 = .ok (.invokevirtual 61, 3) := by decide +kernel
theorem dL_law_384 : decode cL_law 384 = .ok (.aload_n 2, 1) := by decide +kernel
theorem dL_law_385 : decode cL_law 385 = .ok (.invokevirtual 64, 3) := by decide +kernel
theorem dL_law_388 : decode cL_law 388 = .ok (.if_icmp .eq 256, 3) := by decide +kernel
theorem dL_law_391 : decode cL_law 391 = .ok (.iconst 0, 1) := by decide +kernel
theorem dL_law_392 : decode cL_law 392 = .ok (.ireturn, 1) := by decide +kernel
theorem dL_law_393 : decode cL_law 393 = .ok (.aload_n 1, 1) := by decide +kernel
theorem dL_law_394 : decode cL_law 394 = .ok (.invokevirtual 65, 3) := by decide +kernel
theorem dL_law_397 : decode cL_law 397 = .ok (.aload_n 2, 1) := by decide +kernel
theorem dL_law_398 : decode cL_law 398 = .ok (.invokevirtual 68, 3) := by decide +kernel
theorem dL_law_401 : decode cL_law 401 = .ok (.if_icmp .eq 243, 3) := by decide +kernel
theorem dL_law_404 : decode cL_law 404 = .ok (.iconst 0, 1) := by decide +kernel
theorem dL_law_405 : decode cL_law 405 = .ok (.ireturn, 1) := by decide +kernel
theorem dL_law_406 : decode cL_law 406 = .ok (.aload_n 1, 1) := by decide +kernel
theorem dL_law_407 : decode cL_law 407 = .ok (.invokevirtual 69, 3) := by decide +kernel
theorem dL_law_410 : decode cL_law 410 = .ok (.aload_n 2, 1) := by decide +kernel
theorem dL_law_411 : decode cL_law 411 = .ok (.invokevirtual 72, 3) := by decide +kernel
theorem dL_law_414 : decode cL_law 414 = .ok (.if_icmp .eq 230, 3) := by decide +kernel
theorem dL_law_417 : decode cL_law 417 = .ok (.iconst 0, 1) := by decide +kernel
theorem dL_law_418 : decode cL_law 418 = .ok (.ireturn, 1) := by decide +kernel
theorem dL_law_419 : decode cL_law 419 = .ok (.aload_n 1, 1) := by decide +kernel
theorem dL_law_420 : decode cL_law 420 = .ok (.invokevirtual 73, 3) := by decide +kernel
theorem dL_law_423 : decode cL_law 423 = .ok (.aload_n 2, 1) := by decide +kernel
theorem dL_law_424 : decode cL_law 424 = .ok (.invokevirtual 76, 3) := by decide +kernel
theorem dL_law_427 : decode cL_law 427 = .ok (.if_icmp .eq 217, 3) := by decide +kernel
theorem dL_law_430 : decode cL_law 430 = .ok (.iconst 0, 1) := by decide +kernel
theorem dL_law_431 : decode cL_law 431 = .ok (.ireturn, 1) := by decide +kernel
theorem dL_law_432 : decode cL_law 432 = .ok (.aload_n 1, 1) := by decide +kernel
theorem dL_law_433 : decode cL_law 433 = .ok (.invokevirtual 77, 3) := by decide +kernel
theorem dL_law_436 : decode cL_law 436 = .ok (.aload_n 2, 1) := by decide +kernel
theorem dL_law_437 : decode cL_law 437 = .ok (.invokevirtual 80, 3) := by decide +kernel
theorem dL_law_440 : decode cL_law 440 = .ok (.if_icmp .eq 204, 3) := by decide +kernel
theorem dL_law_443 : decode cL_law 443 = .ok (.iconst 0, 1) := by decide +kernel
theorem dL_law_444 : decode cL_law 444 = .ok (.ireturn, 1) := by decide +kernel
theorem dL_law_445 : decode cL_law 445 = .ok (.aload_n 1, 1) := by decide +kernel
theorem dL_law_446 : decode cL_law 446 = .ok (.aload_n 0, 1) := by decide +kernel
theorem dL_law_447 : decode cL_law 447 = .ok (.iload 4, 2) := by decide +kernel
theorem dL_law_449 : decode cL_law 449 = .ok (.iconst 1, 1) := by decide +kernel
theorem dL_law_450 : decode cL_law 450 = .ok (.iadd, 1) := by decide +kernel
theorem dL_law_451 : decode cL_law 451 = .ok (.iaload, 1) := by decide +kernel
theorem dL_law_452 : decode cL_law 452 = .ok (.invokevirtual 81, 3) := by decide +kernel
theorem dL_law_455 : decode cL_law 455 = .ok (.aload_n 2, 1) := by decide +kernel
theorem dL_law_456 : decode cL_law 456 = .ok (.aload_n 0, 1) := by decide +kernel
theorem dL_law_457 : decode cL_law 457 = .ok (.iload 4, 2) := by decide +kernel
theorem dL_law_459 : decode cL_law 459 = .ok (.iconst 1, 1) := by decide +kernel
theorem dL_law_460 : decode cL_law 460 = .ok (.iadd, 1) := by decide +kernel
theorem dL_law_461 : decode cL_law 461 = .ok (.iaload, 1) := by decide +kernel
theorem dL_law_462 : decode cL_law 462 = .ok (.invokevirtual 84, 3) := by decide +kernel
theorem dL_law_465 : decode cL_law 465 = .ok (.if_icmp .eq 179, 3) := by decide +kernel
theorem dL_law_468 : decode cL_law 468 = .ok (.iconst 0, 1) := by decide +kernel
theorem dL_law_469 : decode cL_law 469 = .ok (.ireturn, 1) := by decide +kernel
theorem dL_law_470 : decode cL_law 470 = .ok (.aload_n 1, 1) := by decide +kernel
theorem dL_law_471 : decode cL_law 471 = .ok (.invokevirtual 85, 3) := by decide +kernel
theorem dL_law_474 : decode cL_law 474 = .ok (.aload_n 2, 1) := by decide +kernel
theorem dL_law_475 : decode cL_law 475 = .ok (.invokevirtual 88, 3) := by decide +kernel
theorem dL_law_478 : decode cL_law 478 = .ok (.if_icmp .eq 166, 3) := by decide +kernel
theorem dL_law_481 : decode cL_law 481 = .ok (.iconst 0, 1) := by decide +kernel
theorem dL_law_482 : decode cL_law 482 = .ok (.ireturn, 1) := by decide +kernel
theorem dL_law_483 : decode cL_law 483 = .ok (.aload_n 1, 1) := by decide +kernel
theorem dL_law_484 : decode cL_law 484 = .ok (.aload_n 0, 1) := by decide +kernel
theorem dL_law_485 : decode cL_law 485 = .ok (.iload 4, 2) := by decide +kernel
theorem dL_law_487 : decode cL_law 487 = .ok (.iconst 1, 1) := by decide +kernel
theorem dL_law_488 : decode cL_law 488 = .ok (.iadd, 1) := by decide +kernel
theorem dL_law_489 : decode cL_law 489 = .ok (.iaload, 1) := by decide +kernel
theorem dL_law_490 : decode cL_law 490 = .ok (.aload_n 3, 1) := by decide +kernel
theorem dL_law_491 : decode cL_law 491 = .ok (.invokestatic 89, 3) := by decide +kernel
theorem dL_law_494 : decode cL_law 494 = .ok (.istore 5, 2) := by decide +kernel
theorem dL_law_496 : decode cL_law 496 = .ok (.aload_n 2, 1) := by decide +kernel
theorem dL_law_497 : decode cL_law 497 = .ok (.aload_n 0, 1) := by decide +kernel
theorem dL_law_498 : decode cL_law 498 = .ok (.iload 4, 2) := by decide +kernel
theorem dL_law_500 : decode cL_law 500 = .ok (.iconst 1, 1) := by decide +kernel
theorem dL_law_501 : decode cL_law 501 = .ok (.iadd, 1) := by decide +kernel
theorem dL_law_502 : decode cL_law 502 = .ok (.iaload, 1) := by decide +kernel
theorem dL_law_503 : decode cL_law 503 = .ok (.invokevirtual 91, 3) := by decide +kernel
theorem dL_law_506 : decode cL_law 506 = .ok (.lstore 6, 2) := by decide +kernel
theorem dL_law_508 : decode cL_law 508 = .ok (.aload_n 2, 1) := by decide +kernel
theorem dL_law_509 : decode cL_law 509 = .ok (.invokevirtual 45, 3) := by decide +kernel
theorem dL_law_512 : decode cL_law 512 = .ok (.iload 5, 2) := by decide +kernel
theorem dL_law_514 : decode cL_law 514 = .ok (.if_icmp .eq 5, 3) := by decide +kernel
theorem dL_law_517 : decode cL_law 517 = .ok (.iconst 0, 1) := by decide +kernel
theorem dL_law_518 : decode cL_law 518 = .ok (.ireturn, 1) := by decide +kernel
theorem dL_law_519 : decode cL_law 519 = .ok (.iload 5, 2) := by decide +kernel
theorem dL_law_521 : decode cL_law 521 = .ok (.ifCond .ne 14, 3) := by decide +kernel
theorem dL_law_524 : decode cL_law 524 = .ok (.aload_n 3, 1) := by decide +kernel
theorem dL_law_525 : decode cL_law 525 = .ok (.iconst 0, 1) := by decide +kernel
theorem dL_law_526 : decode cL_law 526 = .ok (.laload, 1) := by decide +kernel
theorem dL_law_527 : decode cL_law 527 = .ok (.lload 6, 2) := by decide +kernel
theorem dL_law_529 : decode cL_law 529 = .ok (.lcmp, 1) := by decide +kernel
theorem dL_law_530 : decode cL_law 530 = .ok (.ifCond .eq 5, 3) := by decide +kernel
theorem dL_law_533 : decode cL_law 533 = .ok (.iconst 0, 1) := by decide +kernel
theorem dL_law_534 : decode cL_law 534 = .ok (.ireturn, 1) := by decide +kernel
theorem dL_law_535 : decode cL_law 535 = .ok (.goto 109, 3) := by decide +kernel
theorem dL_law_538 : decode cL_law 538 = .ok (.aload_n 1, 1) := by decide +kernel
theorem dL_law_539 : decode cL_law 539 = .ok (.invokevirtual 92, 3) := by decide +kernel
theorem dL_law_542 : decode cL_law 542 = .ok (.aload_n 2, 1) := by decide +kernel
theorem dL_law_543 : decode cL_law 543 = .ok (.invokevirtual 95, 3) := by decide +kernel
theorem dL_law_546 : decode cL_law 546 = .ok (.if_icmp .eq 98, 3) := by decide +kernel
theorem dL_law_549 : decode cL_law 549 = .ok (.iconst 0, 1) := by decide +kernel
theorem dL_law_550 : decode cL_law 550 = .ok (.ireturn, 1) := by decide +kernel
theorem dL_law_551 : decode cL_law 551 = .ok (.aload_n 1, 1) := by decide +kernel
theorem dL_law_552 : decode cL_law 552 = .ok (.invokevirtual 96, 3) := by decide +kernel
theorem dL_law_555 : decode cL_law 555 = .ok (.aload_n 2, 1) := by decide +kernel
theorem dL_law_556 : decode cL_law 556 = .ok (.invokevirtual 99, 3) := by decide +kernel
theorem dL_law_559 : decode cL_law 559 = .ok (.if_icmp .eq 85, 3) := by decide +kernel
theorem dL_law_562 : decode cL_law 562 = .ok (.iconst 0, 1) := by decide +kernel
theorem dL_law_563 : decode cL_law 563 = .ok (.ireturn, 1) := by decide +kernel
theorem dL_law_564 : decode cL_law 564 = .ok (.aload_n 1, 1) := by decide +kernel
theorem dL_law_565 : decode cL_law 565 = .ok (.aload_n 0, 1) := by decide +kernel
theorem dL_law_566 : decode cL_law 566 = .ok (.iload 4, 2) := by decide +kernel
theorem dL_law_568 : decode cL_law 568 = .ok (.iconst 1, 1) := by decide +kernel
theorem dL_law_569 : decode cL_law 569 = .ok (.iadd, 1) := by decide +kernel
theorem dL_law_570 : decode cL_law 570 = .ok (.iaload, 1) := by decide +kernel
theorem dL_law_571 : decode cL_law 571 = .ok (.aload_n 0, 1) := by decide +kernel
theorem dL_law_572 : decode cL_law 572 = .ok (.iload 4, 2) := by decide +kernel
theorem dL_law_574 : decode cL_law 574 = .ok (.iconst 2, 1) := by decide +kernel
theorem dL_law_575 : decode cL_law 575 = .ok (.iadd, 1) := by decide +kernel
theorem dL_law_576 : decode cL_law 576 = .ok (.iaload, 1) := by decide +kernel
theorem dL_law_577 : decode cL_law 577 = .ok (.aload_n 0, 1) := by decide +kernel
theorem dL_law_578 : decode cL_law 578 = .ok (.iload 4, 2) := by decide +kernel
theorem dL_law_580 : decode cL_law 580 = .ok (.iconst 3, 1) := by decide +kernel
theorem dL_law_581 : decode cL_law 581 = .ok (.iadd, 1) := by decide +kernel
theorem dL_law_582 : decode cL_law 582 = .ok (.iaload, 1) := by decide +kernel
theorem dL_law_583 : decode cL_law 583 = .ok (.aload_n 3, 1) := by decide +kernel
theorem dL_law_584 : decode cL_law 584 = .ok (.invokestatic 100, 3) := by decide +kernel
theorem dL_law_587 : decode cL_law 587 = .ok (.istore 5, 2) := by decide +kernel
theorem dL_law_589 : decode cL_law 589 = .ok (.aload_n 2, 1) := by decide +kernel
theorem dL_law_590 : decode cL_law 590 = .ok (.aload_n 0, 1) := by decide +kernel
theorem dL_law_591 : decode cL_law 591 = .ok (.iload 4, 2) := by decide +kernel
theorem dL_law_593 : decode cL_law 593 = .ok (.iconst 1, 1) := by decide +kernel
theorem dL_law_594 : decode cL_law 594 = .ok (.iadd, 1) := by decide +kernel
theorem dL_law_595 : decode cL_law 595 = .ok (.iaload, 1) := by decide +kernel
theorem dL_law_596 : decode cL_law 596 = .ok (.aload_n 0, 1) := by decide +kernel
theorem dL_law_597 : decode cL_law 597 = .ok (.iload 4, 2) := by decide +kernel
theorem dL_law_599 : decode cL_law 599 = .ok (.iconst 2, 1) := by decide +kernel
theorem dL_law_600 : decode cL_law 600 = .ok (.iadd, 1) := by decide +kernel
theorem dL_law_601 : decode cL_law 601 = .ok (.iaload, 1) := by decide +kernel
theorem dL_law_602 : decode cL_law 602 = .ok (.aload_n 0, 1) := by decide +kernel
theorem dL_law_603 : decode cL_law 603 = .ok (.iload 4, 2) := by decide +kernel
theorem dL_law_605 : decode cL_law 605 = .ok (.iconst 3, 1) := by decide +kernel
theorem dL_law_606 : decode cL_law 606 = .ok (.iadd, 1) := by decide +kernel
theorem dL_law_607 : decode cL_law 607 = .ok (.iaload, 1) := by decide +kernel
theorem dL_law_608 : decode cL_law 608 = .ok (.invokevirtual 103, 3) := by decide +kernel
theorem dL_law_611 : decode cL_law 611 = .ok (.istore 6, 2) := by decide +kernel
theorem dL_law_613 : decode cL_law 613 = .ok (.aload_n 2, 1) := by decide +kernel
theorem dL_law_614 : decode cL_law 614 = .ok (.invokevirtual 45, 3) := by decide +kernel
theorem dL_law_617 : decode cL_law 617 = .ok (.iload 5, 2) := by decide +kernel
theorem dL_law_619 : decode cL_law 619 = .ok (.if_icmp .eq 5, 3) := by decide +kernel
theorem dL_law_622 : decode cL_law 622 = .ok (.iconst 0, 1) := by decide +kernel
theorem dL_law_623 : decode cL_law 623 = .ok (.ireturn, 1) := by decide +kernel
theorem dL_law_624 : decode cL_law 624 = .ok (.iload 5, 2) := by decide +kernel
theorem dL_law_626 : decode cL_law 626 = .ok (.ifCond .ne 15, 3) := by decide +kernel
theorem dL_law_629 : decode cL_law 629 = .ok (.aload_n 3, 1) := by decide +kernel
theorem dL_law_630 : decode cL_law 630 = .ok (.iconst 0, 1) := by decide +kernel
theorem dL_law_631 : decode cL_law 631 = .ok (.laload, 1) := by decide +kernel
theorem dL_law_632 : decode cL_law 632 = .ok (.iload 6, 2) := by decide +kernel
theorem dL_law_634 : decode cL_law 634 = .ok (.i2l, 1) := by decide +kernel
theorem dL_law_635 : decode cL_law 635 = .ok (.lcmp, 1) := by decide +kernel
theorem dL_law_636 : decode cL_law 636 = .ok (.ifCond .eq 5, 3) := by decide +kernel
theorem dL_law_639 : decode cL_law 639 = .ok (.iconst 0, 1) := by decide +kernel
theorem dL_law_640 : decode cL_law 640 = .ok (.ireturn, 1) := by decide +kernel
theorem dL_law_641 : decode cL_law 641 = .ok (.goto 3, 3) := by decide +kernel
theorem dL_law_644 : decode cL_law 644 = .ok (.iinc 4 4, 3) := by decide +kernel
theorem dL_law_647 : decode cL_law 647 = .ok (.goto (-624), 3) := by decide +kernel
theorem dL_law_650 : decode cL_law 650 = .ok (.iconst 1, 1) := by decide +kernel
theorem dL_law_651 : decode cL_law 651 = .ok (.ireturn, 1) := by decide +kernel
end
section
/-! the statics' tables, the two objects' cells, and calls in one row -/
def rKl : List Int32 := [1, 0, 2, 3, 9, 9, 9, 12, 12, 12, 6, 7, 4, 4, 4, 4, 5, 5, 5, 5, 12, 12, 12, 12, 12, 8, 8, 8, 10, 10, 11, 11]
def rWl : List Int32 := [0, 0, 0, 0, 1, 2, 4, 1, 2, 4, 4, 8, 1, 2, 4, 8, 1, 2, 4, 8, 0, 0, 0, 0, 0, 1, 2, 4, 2, 4, 2, 4]
def rK (j : Nat) : Int32 := rKl.getD j 0
def rW (j : Nat) : Int32 := rWl.getD j 0
def zz (tk tw : Nat) (A : Nat → Prop) (U : State) (H : Heap) : Prop := va_Z "MessageReader" "ROW_KIND" "[I" (.ref tk) A U H ∧ va_T .int tk 32 (fun j => .int (rK j)) A U H ∧ va_Z "MessageReader" "ROW_WIDTH" "[I" (.ref tw) A U H ∧ va_T .int tw 32 (fun j => .int (rW j)) A U H
theorem zz_moved {tk tw : Nat} {A : Nat → Prop} {u U : State} {H : Heap} (hvm : u.vm.Alike U.vm) (h : zz tk tw A u H) : zz tk tw A U H := ⟨h.1.moved hvm, h.2.1.moved hvm, h.2.2.1.moved hvm, h.2.2.2.moved hvm⟩
theorem zz_kept {tk tw : Nat} {A : Nat → Prop} {U : State} {H H1 : Heap} (h : zz tk tw A U H) (hq : ∀ a : Nat, a < H.size → ¬ A a → H1[a]? = H[a]?) : zz tk tw A U H1 := ⟨h.1.kept hq, h.2.1.kept hq, h.2.2.1.kept hq, h.2.2.2.kept hq⟩
theorem zz_narrow {tk tw : Nat} {A B : Nat → Prop} {U : State} {H : Heap} (h : zz tk tw A U H) (hAB : ∀ q, B q → A q) : zz tk tw B U H := ⟨h.1.narrow hAB, h.2.1.narrow hAB, h.2.2.1.narrow hAB, h.2.2.2.narrow hAB⟩
abbrev pr (dC : Nat → ClassId) (dI : Nat → Nat → Nat) (tys : List (ClassId × FieldType)) (ws : va_W) (sz tk tw : Nat) : State → Prop := fun U => U.heap.size = sz ∧ va_P (dC, dI) vwCl ws U.heap ∧ va_K (dC, dI) vwCl tys U ∧ va_D (fun _ => True) ws ∧ zz tk tw (va_A ws sz) U U.heap
abbrev po (dC : Nat → ClassId) (dI : Nat → Nat → Nat) (tys : List (ClassId × FieldType)) (A : Nat → Prop) (ws : va_W) : State → Prop := fun t => va_P (dC, dI) vwCl ws t.heap ∧ va_K (dC, dI) vwCl tys t ∧ va_D A ws
abbrev p0 (sz tk tw : Nat) : State → Prop := fun U => U.heap.size = sz ∧ zz tk tw (va_A [] sz) U U.heap
theorem fr_all {A : Nat → Prop} {ws : va_W} {H0 H : Heap} {locs : List Loc} (hD : va_D A ws) (hS : va_S A H0 H locs) (hA : ∀ q, H0.size ≤ q → A q) : ∀ q, va_A ws H.size q → A q := by
  intro q h
  rcases h with ⟨k, e, h⟩ | h
  · exact hD.2 k (q, e) h
  · exact hA q (Nat.le_trans hS.1 h)
theorem fr_nil {A : Nat → Prop} {H0 H : Heap} {locs : List Loc} (hS : va_S A H0 H locs) (hA : ∀ q, H0.size ≤ q → A q) : ∀ q, va_A [] H.size q → A q := by
  intro q h
  rcases h with ⟨k, e, h⟩ | h
  · simp at h
  · exact hA q (Nat.le_trans hS.1 h)
theorem nA_nil {q sz : Nat} (h : q < sz) : ¬ va_A [] sz q := by
  intro z
  rcases z with ⟨k, e, z⟩ | z
  · simp at z
  · omega
section GC
variable {p : Program} {l : Launch} {e : Env} {R : Room} {s : State} {m : MethodId} {args : Array Value} {below : List Frame} {meth : Method} {c : Code} {H : Heap} {locs : List Loc} {cells slots : Nat} {Q : State → Prop}
variable {y : MethodName} {bytes cc : ByteArray} {maxL nL mc ms n index : Nat} {ret : Option FieldType} {w : List Cond} {rm : Room} {Ts : List Cond} {own C : String} {b : Addr} {As rest st0 : List Value} {pc : Nat} {ls : Array Slot}
variable {dC : Nat → ClassId} {dI : Nat → Nat → Nat} {tys : List (ClassId × FieldType)} {ws : va_W} {A : Nat → Prop} {tk tw : Nat} {S : Type} {W1 : S → va_W} {q0 ci : Nat} {q : vw_C} {fs : List Value}
theorem gvi {post : Int32 → S → Prop} (X : CallFix p m c cc nL s args Ts own)
    (hM : Met l y w rm (va_Pc (.ref b :: As) (pr dC dI tys ws H.size tk tw)) (va_Qi post (fun u => po dC dI tys (va_A ws H.size) (W1 u)) (va_A ws H.size)) mc ms (va_A ws H.size))
    (cw : CallW R s args own C index y bytes maxL ret w rm mc ms n)
    (hK : va_K (dC, dI) vwCl tys s) (hP : va_P (dC, dI) vwCl ws H) (hD : va_D A ws) (hS : va_S A s.heap H locs) (hA : ∀ q, s.heap.size ≤ q → A q) (hZ : zz tk tw A s s.heap)
    (hc : vwCl[ci]? = some q) (hq : q.1 = C) (he : ws[q0]? = some (b, .inr (ci, fs)))
    (hn : As.length = n) (hsize : ls.size = nL) (hstack : st0 = As.reverse ++ .ref b :: rest) (hW : (rest.map fun v => v.category).sum ≤ 8) (hdg : decode cc pc = .ok (.invokevirtual index, 3)) (hf : cells + mc ≤ R.cells ∧ slots + ms ≤ R.slots)
    (kk : ∀ (r : Int32) (u : S) (H1 : Heap) (locs1 : List Loc), post r u → va_P (dC, dI) vwCl (W1 u) H1 → va_D A (W1 u) → va_S A s.heap H1 locs1 → W p l e R s m args below meth c H1 locs1 (cells + mc) (slots + ms) Q (F0 m (pc + 3) ls (.int r :: rest))) : W p l e R s m args below meth c H locs cells slots Q (F0 m pc ls st0) := by
  have hF := fr_all hD hS hA
  subst hq
  refine va_calli (va_runV (As := As) (rest := rest) X hM cw ⟨fun a U g mk q => ?_, va_recv hK hP hc he, fun U hU hW => ?_⟩ rfl hn hsize hstack (lv_room hW) hdg hf) hS (fun q _ h => hF q h) hF (fun r u t H1 locs1 ht hvm hw hB hz1 hk1 hS1 => ?_)
  · obtain ⟨q0, q1, qP, qK, qD, qZ⟩ := q
    exact ⟨q0, q1, qP, va_K.moved (u := U) (U := U.calling g mk a) (Vm.Alike.refl U.vm) qK, qD, zz_moved (u := U) (U := U.calling g mk a) (Vm.Alike.refl U.vm) qZ⟩
  · exact ⟨rfl, by rw [hU], by rw [hU]; exact hP, va_K.moved hW.alike hK, hD.weaken (fun _ _ _ _ => trivial), by rw [hU]; exact zz_moved hW.alike (zz_narrow (zz_kept hZ (fun a h1 h2 => hS.2.1 a h1 h2)) hF)⟩
  · obtain ⟨hP1, hK1, hD1⟩ := hB
    rw [ht] at hP1
    exact kk r u H1 locs1 hw hP1 (hD1.weaken (fun _ q _ h => hF q.1 h)) hS1
theorem gvl {post : Int64 → S → Prop} (X : CallFix p m c cc nL s args Ts own)
    (hM : Met l y w rm (va_Pc (.ref b :: As) (pr dC dI tys ws H.size tk tw)) (va_Ql post (fun u => po dC dI tys (va_A ws H.size) (W1 u)) (va_A ws H.size)) mc ms (va_A ws H.size))
    (cw : CallW R s args own C index y bytes maxL ret w rm mc ms n)
    (hK : va_K (dC, dI) vwCl tys s) (hP : va_P (dC, dI) vwCl ws H) (hD : va_D A ws) (hS : va_S A s.heap H locs) (hA : ∀ q, s.heap.size ≤ q → A q) (hZ : zz tk tw A s s.heap)
    (hc : vwCl[ci]? = some q) (hq : q.1 = C) (he : ws[q0]? = some (b, .inr (ci, fs)))
    (hn : As.length = n) (hsize : ls.size = nL) (hstack : st0 = As.reverse ++ .ref b :: rest) (hW : (rest.map fun v => v.category).sum ≤ 8) (hdg : decode cc pc = .ok (.invokevirtual index, 3)) (hf : cells + mc ≤ R.cells ∧ slots + ms ≤ R.slots)
    (kk : ∀ (r : Int64) (u : S) (H1 : Heap) (locs1 : List Loc), post r u → va_P (dC, dI) vwCl (W1 u) H1 → va_D A (W1 u) → va_S A s.heap H1 locs1 → W p l e R s m args below meth c H1 locs1 (cells + mc) (slots + ms) Q (F0 m (pc + 3) ls (.long r :: rest))) : W p l e R s m args below meth c H locs cells slots Q (F0 m pc ls st0) := by
  have hF := fr_all hD hS hA
  subst hq
  refine va_calll (va_runV (As := As) (rest := rest) X hM cw ⟨fun a U g mk q => ?_, va_recv hK hP hc he, fun U hU hW => ?_⟩ rfl hn hsize hstack (lv_room hW) hdg hf) hS (fun q _ h => hF q h) hF (fun r u t H1 locs1 ht hvm hw hB hz1 hk1 hS1 => ?_)
  · obtain ⟨q0, q1, qP, qK, qD, qZ⟩ := q
    exact ⟨q0, q1, qP, va_K.moved (u := U) (U := U.calling g mk a) (Vm.Alike.refl U.vm) qK, qD, zz_moved (u := U) (U := U.calling g mk a) (Vm.Alike.refl U.vm) qZ⟩
  · exact ⟨rfl, by rw [hU], by rw [hU]; exact hP, va_K.moved hW.alike hK, hD.weaken (fun _ _ _ _ => trivial), by rw [hU]; exact zz_moved hW.alike (zz_narrow (zz_kept hZ (fun a h1 h2 => hS.2.1 a h1 h2)) hF)⟩
  · obtain ⟨hP1, hK1, hD1⟩ := hB
    rw [ht] at hP1
    exact kk r u H1 locs1 hw hP1 (hD1.weaken (fun _ q _ h => hF q.1 h)) hS1
theorem gvv {post : S → Prop} (X : CallFix p m c cc nL s args Ts own)
    (hM : Met l y w rm (va_Pc (.ref b :: As) (pr dC dI tys ws H.size tk tw)) (va_Qv post (fun u => po dC dI tys (va_A ws H.size) (W1 u)) (va_A ws H.size)) mc ms (va_A ws H.size))
    (cw : CallW R s args own C index y bytes maxL ret w rm mc ms n)
    (hK : va_K (dC, dI) vwCl tys s) (hP : va_P (dC, dI) vwCl ws H) (hD : va_D A ws) (hS : va_S A s.heap H locs) (hA : ∀ q, s.heap.size ≤ q → A q) (hZ : zz tk tw A s s.heap)
    (hc : vwCl[ci]? = some q) (hq : q.1 = C) (he : ws[q0]? = some (b, .inr (ci, fs)))
    (hn : As.length = n) (hsize : ls.size = nL) (hstack : st0 = As.reverse ++ .ref b :: rest) (hW : (rest.map fun v => v.category).sum ≤ 8) (hdg : decode cc pc = .ok (.invokevirtual index, 3)) (hf : cells + mc ≤ R.cells ∧ slots + ms ≤ R.slots)
    (kk : ∀ (u : S) (H1 : Heap) (locs1 : List Loc), post u → va_P (dC, dI) vwCl (W1 u) H1 → va_D A (W1 u) → va_S A s.heap H1 locs1 → W p l e R s m args below meth c H1 locs1 (cells + mc) (slots + ms) Q (F0 m (pc + 3) ls rest)) : W p l e R s m args below meth c H locs cells slots Q (F0 m pc ls st0) := by
  have hF := fr_all hD hS hA
  subst hq
  refine va_callv (va_runV (As := As) (rest := rest) X hM cw ⟨fun a U g mk q => ?_, va_recv hK hP hc he, fun U hU hW => ?_⟩ rfl hn hsize hstack (lv_room hW) hdg hf) hS (fun q _ h => hF q h) hF (fun u t H1 locs1 ht hvm hw hB hz1 hk1 hS1 => ?_)
  · obtain ⟨q0, q1, qP, qK, qD, qZ⟩ := q
    exact ⟨q0, q1, qP, va_K.moved (u := U) (U := U.calling g mk a) (Vm.Alike.refl U.vm) qK, qD, zz_moved (u := U) (U := U.calling g mk a) (Vm.Alike.refl U.vm) qZ⟩
  · exact ⟨rfl, by rw [hU], by rw [hU]; exact hP, va_K.moved hW.alike hK, hD.weaken (fun _ _ _ _ => trivial), by rw [hU]; exact zz_moved hW.alike (zz_narrow (zz_kept hZ (fun a h1 h2 => hS.2.1 a h1 h2)) hF)⟩
  · obtain ⟨hP1, hK1, hD1⟩ := hB
    rw [ht] at hP1
    exact kk u H1 locs1 hw hP1 (hD1.weaken (fun _ q _ h => hF q.1 h)) hS1
theorem gsi {post : Int32 → Unit → Prop} (X : CallFix p m c cc nL s args Ts own)
    (hM : Met l y w rm (va_Pc As (p0 H.size tk tw)) (va_Qi post (fun _ _ => True) (va_A [] H.size)) mc ms (va_A [] H.size))
    (cw : CallB R s args own index y bytes maxL ret w rm mc ms n ∧ (Cond.static y).before args s = true)
    (hP : va_P (dC, dI) vwCl ws H) (hS : va_S A s.heap H locs) (hA : ∀ q, s.heap.size ≤ q → A q) (hZ : zz tk tw A s s.heap)
    (hn : As.length = n) (hsize : ls.size = nL) (hstack : st0 = As.reverse ++ rest) (hW : (rest.map fun v => v.category).sum ≤ 8) (hdg : decode cc pc = .ok (.invokestatic index, 3)) (hf : cells + mc ≤ R.cells ∧ slots + ms ≤ R.slots)
    (kk : ∀ (r : Int32) (H1 : Heap) (locs1 : List Loc), post r () → va_P (dC, dI) vwCl ws H1 → va_S A s.heap H1 locs1 → W p l e R s m args below meth c H1 locs1 (cells + mc) (slots + ms) Q (F0 m (pc + 3) ls (.int r :: rest))) : W p l e R s m args below meth c H locs cells slots Q (F0 m pc ls st0) := by
  have hF := fr_nil hS hA
  refine va_calli (va_runS (As := As) (rest := rest) X hM cw ⟨fun a U g mk q => ?_, fun U hU hW => ?_⟩ rfl hn hsize hstack (lv_room hW) hdg hf) hS (fun q _ h => hF q h) hF (fun r u t H1 locs1 ht hvm hw hB hz1 hk1 hS1 => ?_)
  · obtain ⟨q0, q1, qZ⟩ := q
    exact ⟨q0, q1, zz_moved (u := U) (U := U.calling g mk a) (Vm.Alike.refl U.vm) qZ⟩
  · exact ⟨rfl, by rw [hU], by rw [hU]; exact zz_moved hW.alike (zz_narrow (zz_kept hZ (fun a h1 h2 => hS.2.1 a h1 h2)) hF)⟩
  · exact kk r H1 locs1 hw (hP.kept (fun k x hk => hk1 x.1 (hP k x hk).lt (nA_nil (hP k x hk).lt))) hS1
theorem gsl {post : Int64 → Unit → Prop} (X : CallFix p m c cc nL s args Ts own)
    (hM : Met l y w rm (va_Pc As (p0 H.size tk tw)) (va_Ql post (fun _ _ => True) (va_A [] H.size)) mc ms (va_A [] H.size))
    (cw : CallB R s args own index y bytes maxL ret w rm mc ms n ∧ (Cond.static y).before args s = true)
    (hP : va_P (dC, dI) vwCl ws H) (hS : va_S A s.heap H locs) (hA : ∀ q, s.heap.size ≤ q → A q) (hZ : zz tk tw A s s.heap)
    (hn : As.length = n) (hsize : ls.size = nL) (hstack : st0 = As.reverse ++ rest) (hW : (rest.map fun v => v.category).sum ≤ 8) (hdg : decode cc pc = .ok (.invokestatic index, 3)) (hf : cells + mc ≤ R.cells ∧ slots + ms ≤ R.slots)
    (kk : ∀ (r : Int64) (H1 : Heap) (locs1 : List Loc), post r () → va_P (dC, dI) vwCl ws H1 → va_S A s.heap H1 locs1 → W p l e R s m args below meth c H1 locs1 (cells + mc) (slots + ms) Q (F0 m (pc + 3) ls (.long r :: rest))) : W p l e R s m args below meth c H locs cells slots Q (F0 m pc ls st0) := by
  have hF := fr_nil hS hA
  refine va_calll (va_runS (As := As) (rest := rest) X hM cw ⟨fun a U g mk q => ?_, fun U hU hW => ?_⟩ rfl hn hsize hstack (lv_room hW) hdg hf) hS (fun q _ h => hF q h) hF (fun r u t H1 locs1 ht hvm hw hB hz1 hk1 hS1 => ?_)
  · obtain ⟨q0, q1, qZ⟩ := q
    exact ⟨q0, q1, zz_moved (u := U) (U := U.calling g mk a) (Vm.Alike.refl U.vm) qZ⟩
  · exact ⟨rfl, by rw [hU], by rw [hU]; exact zz_moved hW.alike (zz_narrow (zz_kept hZ (fun a h1 h2 => hS.2.1 a h1 h2)) hF)⟩
  · exact kk r H1 locs1 hw (hP.kept (fun k x hk => hk1 x.1 (hP k x hk).lt (nA_nil (hP k x hk).lt))) hS1
end GC
abbrev w0 (h a b : Nat) (cB cJ : ClassId) (f : Nat → Int32) (g : Nat → Int64) (sz cn gv op : Int32) : va_W := [(h, .inr (0, [.ref a, .int sz, .int cn, .int gv, .ref b, .int op])), (a, .inl (cB, 4096, .inl f)), (b, .inl (cJ, 100, .inr (.inl g)))]
abbrev w1 (h a b : Nat) (cI cJ : ClassId) (f : Nat → Int32) (g : Nat → Int64) (th sz cn so : Int32) (nu : Int64) (ty hd : Int32) (pa ch : Int64) (lk lo hi lp ll lv : Int32) : va_W := [(h, .inr (1, [.int th, .ref a, .int sz, .int cn, .int so, .long nu, .int ty, .int hd, .long pa, .long ch, .int lk, .int lo, .int hi, .int lp, .int ll, .ref b, .int lv])), (a, .inl (cI, 4096, .inl f)), (b, .inl (cJ, 100, .inr (.inl g)))]
abbrev t0 (cB cJ : ClassId) : List (ClassId × FieldType) := [(cB, .byte), (cJ, .long)]
abbrev t1 (cI cJ : ClassId) : List (ClassId × FieldType) := [(cI, .int), (cJ, .long)]
end
section
/-! what a first byte tells (numbers), and what both classes compute, in one place -/
def kd (b : Nat) : Nat := if b < 128 then 4 else if b < 144 then 11 else if b < 160 then 10 else if b < 192 then 8 else if 223 < b then 5 else ([1, 0, 2, 3, 9, 9, 9, 12, 12, 12, 6, 7, 4, 4, 4, 4, 5, 5, 5, 5, 12, 12, 12, 12, 12, 8, 8, 8, 10, 10, 11, 11] : List Nat).getD (b - 192) 0
def wd (b : Nat) : Nat := if b < 192 then 0 else if 223 < b then 0 else ([0, 0, 0, 0, 1, 2, 4, 1, 2, 4, 4, 8, 1, 2, 4, 8, 1, 2, 4, 8, 0, 0, 0, 0, 0, 1, 2, 4, 2, 4, 2, 4] : List Nat).getD (b - 192) 0
def hd (b : Nat) : Nat := 1 + wd b + (if kd b = 12 then 1 else 0)
/-- the number of a first byte that has none behind it -/
def ow (b : Nat) : Int64 := if b < 128 then (nI b).toInt64 else if b < 144 then (nI b - 128).toInt64 else if b < 160 then (nI b - 144).toInt64 else if b < 192 then (nI b - 160).toInt64 else if 223 < b then (nI b - 256).toInt64 else if 211 < b ∧ b < 217 then (1 : Int64) <<< ((nI b - 212).toInt64 &&& 63) else 0
/-- the number in k bytes from a on -/
def rd (B : Nat → Nat) (a : Nat) : Nat → Int64
  | 0 => 0
  | k + 1 => (rd B a k <<< ((8 : Int32).toInt64 &&& 63)) ||| (nI (B (a + k))).toInt64
def sg (x : Int64) (w : Nat) : Int64 := (x <<< ((64 - 8 * nI w).toInt64 &&& 63)) >>> ((64 - 8 * nI w).toInt64 &&& 63)
/-- the number of the head at a -/
def nv (B : Nat → Nat) (a : Nat) : Int64 := if wd (B a) = 0 then ow (B a) else if kd (B a) = 5 then sg (rd B (a + 1) (wd (B a))) (wd (B a)) else rd B (a + 1) (wd (B a))
def hp (k : Nat) : Bool := k == 8 || k == 9 || k == 12
/-- the payload's length -/
def pl (B : Nat → Nat) (a : Nat) : Int32 := if hp (kd (B a)) = true then (nv B a).toInt32 else 0
def ch (B : Nat → Nat) (a : Nat) : Int64 := if kd (B a) = 10 then nv B a else if kd (B a) = 11 then 2 * nv B a else 0
def bY (f : Nat → Int32) (j : Nat) : Nat := (f j).toBitVec.toNat % 256
theorem bY_and (f : Nat → Int32) (j : Nat) : f j &&& 255 = nI (bY f j) := pk_and (f j) 8 (by decide)
theorem bY_lt (f : Nat → Int32) (j : Nat) : bY f j < 256 := Nat.mod_lt _ (by decide)
theorem kd_le : ∀ b, b < 256 → kd b ≤ 12 := by decide +kernel
theorem wd_le : ∀ b, b < 256 → wd b ≤ 8 := by decide +kernel
theorem hd_le : ∀ b, b < 256 → 1 ≤ hd b ∧ hd b ≤ 9 ∧ wd b < hd b := by decide +kernel
/-! the class's own forms of these -/
def sK (x : Int32) : Int32 := if 128 ≤ x then (if 144 ≤ x then (if 160 ≤ x then (if 192 ≤ x then (if x ≤ 223 then rK (x - 192).toNatClampNeg else 5) else 8) else 10) else 11) else 4
theorem sK_kd : ∀ b, b < 256 → sK (nI b) = nI (kd b) := by decide +kernel
theorem row_in : ∀ b, b < 256 → (192 : Int32) ≤ nI b → nI b ≤ 223 → ¬ ((nI b - 192) < 0 ∨ 32 ≤ (nI b - 192).toNatClampNeg) := by decide +kernel
def sW (x : Int32) : Int32 := if x < 192 then 0 else if x ≤ 223 then rW (x - 192).toNatClampNeg else 0
theorem sW_wd : ∀ b, b < 256 → sW (nI b) = nI (wd b) := by decide +kernel
def tW (b : Nat) : Nat := if kd b = 12 then 1 else 0
def sI (b : Nat) : Int64 := if kd b = 4 then (nI b).toInt64 else if kd b = 5 then (nI b - 256).toInt64 else if kd b = 11 then (nI b - 128).toInt64 else if kd b = 10 then (nI b - 144).toInt64 else if kd b = 8 then (nI b - 160).toInt64 else if kd b = 12 then (1 : Int64) <<< ((nI b - 212).toInt64 &&& 63) else 0
theorem sI_ow : ∀ b, b < 256 → wd b = 0 → sI b = ow b := by decide +kernel
theorem nI_e12 : ∀ k, k ≤ 12 → ∀ j, j ≤ 12 → (nI k = nI j ↔ k = j) := by decide +kernel
theorem row_in2 : ∀ b, b < 256 → ¬ nI b < (192 : Int32) → nI b ≤ 223 → ¬ ((nI b - 192) < 0 ∨ 32 ≤ (nI b - 192).toNatClampNeg) := by decide +kernel
end
section
/-! pure rows on the numbers of both classes -/
theorem nI_z {k : Nat} (h : k < 2 ^ 31) : nI k = 0 ↔ k = 0 := by
  rw [show (0 : Int32) = nI 0 from rfl]; exact nI_eq h (by decide)
theorem nI_am1 {a h : Nat} (h1 : 1 ≤ h) : nI a + nI h - 1 = nI (a + h - 1) := by
  rw [nI_add, show (1 : Int32) = nI 1 from rfl, pk_sub (by omega)]
def lkS (B : Nat → Nat) (n a : Nat) : Int32 :=
  if nI a < nI n then
    (if nI (B a) = 193 then -3 else
      if (0 : Int32) ≤ nI n - nI a - nI (hd (B a)) then
        (if nI (kd (B a)) < 8 then (if pl B a ≤ nI n - nI a - nI (hd (B a)) then nI (kd (B a)) else -2)
         else if nv B a ≤ 2147483647 then (if pl B a ≤ nI n - nI a - nI (hd (B a)) then nI (kd (B a)) else -2) else -4)
      else -2)
  else -2
theorem nI_room {n a h : Nat} (hn : n ≤ 4096) (ha : a < n) (hh : h ≤ 9) (q : (0 : Int32) ≤ nI n - nI a - nI h) : a + h ≤ n := by
  rw [pk_sub (Nat.le_of_lt ha)] at q
  rcases Nat.lt_or_ge n (a + h) with z | z
  · exfalso
    have := pk_sneg (a := n - a) (b := h) (by omega) (by omega)
    rw [Int32.lt_iff_toInt_lt] at this
    rw [Int32.le_iff_toInt_le] at q
    omega
  · exact z
theorem nI_room_eq {n a h : Nat} (q : a + h ≤ n) : nI n - nI a - nI h = nI (n - (a + h)) := by
  rw [pk_sub (by omega), pk_sub (by omega)]
  congr 1
  omega
/-- the place behind the head and its payload -/
def nx (B : Nat → Nat) (a : Nat) : Nat := a + hd (B a) + (pl B a).toNatClampNeg
/-- the walk over a whole value: the answer (below 0: why not), the last head -/
def wk (B : Nat → Nat) (n : Nat) : Nat → Nat → Int64 → Int32 × Nat
  | 0, a, _ => (-2, a)
  | m + 1, a, d => if lkS B n a < 0 then (lkS B n a, a) else if d + (ch B a - 1) = 0 then (0, a) else wk B n m (nx B a) (d + (ch B a - 1))
def wr (B : Nat → Nat) (n : Nat) (m a : Nat) (d : Int64) : Int32 := if (wk B n m a d).1 < 0 then (wk B n m a d).1 else nI (wk B n m a d).2
theorem wr_0 {B : Nat → Nat} {n a : Nat} {d : Int64} : wr B n 0 a d = -2 := by
  simp [wr, wk]
theorem wr_neg {B : Nat → Nat} {n m a : Nat} {d : Int64} (h : lkS B n a < 0) : wr B n (m + 1) a d = lkS B n a := by
  simp [wr, wk, h]
theorem wr_end {B : Nat → Nat} {n m a : Nat} {d : Int64} (h : ¬ lkS B n a < 0) (h2 : d + (ch B a - 1) = 0) : wr B n (m + 1) a d = nI a := by
  simp [wr, wk, h, h2]
theorem wr_next {B : Nat → Nat} {n m a : Nat} {d : Int64} (h : ¬ lkS B n a < 0) (h2 : ¬ d + (ch B a - 1) = 0) : wr B n (m + 1) a d = wr B n m (nx B a) (d + (ch B a - 1)) := by
  simp [wr, wk, h, h2]
end
section
/-! ===== a byte read unsigned ===== -/
theorem bp_b (x : Int32) : x.toInt8.toInt32 &&& 255 = x &&& 255 := by
  apply Int32.toBitVec_inj.mp
  rw [Int32.toBitVec_and, Int32.toBitVec_and, Int8.toBitVec_toInt32, Int32.toBitVec_toInt8]
  apply BitVec.eq_of_getLsbD_eq
  intro i hi
  rw [BitVec.getLsbD_and, BitVec.getLsbD_and]
  have hm : ∀ i < 32, 8 ≤ i → (255 : Int32).toBitVec.getLsbD i = false := by decide
  rcases Nat.lt_or_ge i 8 with z | z
  · rw [BitVec.getLsbD_signExtend, BitVec.getLsbD_signExtend, if_pos z, if_pos hi]
    simp only [z, hi, decide_true, Bool.true_and]
  · rw [hm i hi z]; simp
/-! ===== lN n to 2^64: shifts, and, or, masks, one bit ===== -/
theorem wb_tb (n : Nat) : (lN n).toBitVec = BitVec.ofNat 64 n := rfl
theorem wb_inj {a b : Int64} (h : a.toBitVec = b.toBitVec) : a = b := Int64.toBitVec_inj.mp h
theorem wb_tn {n : Nat} (h : n < 2 ^ 64) : (lN n).toBitVec.toNat = n := by rw [wb_tb, BitVec.toNat_ofNat, Nat.mod_eq_of_lt h]
theorem wb_of (x : Int64) : ∃ n, n < 2 ^ 64 ∧ x = lN n := ⟨x.toBitVec.toNat, x.toBitVec.isLt, wb_inj (by rw [wb_tb]; simp)⟩
theorem wb_of32 (x : Int32) : ∃ n, n < 2 ^ 32 ∧ x = nI n := ⟨x.toBitVec.toNat, x.toBitVec.isLt, Int32.toBitVec_inj.mp (by show _ = BitVec.ofNat 32 _; simp)⟩
theorem wb_c : ∀ k, k < 64 → ((nI k).toInt64 &&& 63) = lN k := by decide +kernel
theorem wb_cu : ∀ k, k < 64 → ((nI k).toInt64.toUInt64 &&& Int64.toUInt64 63) = UInt64.ofNat k := by decide +kernel
theorem wb_sm : ∀ k, k < 64 → (BitVec.ofNat 64 k).smod 64 = BitVec.ofNat 64 k := by decide +kernel
theorem wb_pw {a b : Nat} (h : a ≤ b) : 2 ^ b = 2 ^ a * 2 ^ (b - a) := by rw [← Nat.pow_add]; congr 1; omega
theorem wb_lt2 {a b : Nat} (h : a < b) : 2 ^ a < 2 ^ b := Nat.pow_lt_pow_right (by decide) h
theorem wb_mod (n : Nat) : lN n = lN (n % 2 ^ 64) := wb_inj (by rw [wb_tb, wb_tb]; apply BitVec.eq_of_toNat_eq; rw [BitVec.toNat_ofNat, BitVec.toNat_ofNat, Nat.mod_mod])
theorem wb_shr {n k : Nat} (hn : n < 2 ^ 64) (hk : k < 64) : ((lN n).toUInt64 >>> ((nI k).toInt64.toUInt64 &&& Int64.toUInt64 63)).toInt64 = lN (n / 2 ^ k) := by
  rw [wb_cu k hk]
  apply wb_inj
  apply BitVec.eq_of_toNat_eq
  show ((lN n).toUInt64 >>> UInt64.ofNat k).toNat = (BitVec.ofNat 64 _).toNat
  have h1 : (UInt64.ofNat k).toNat = k := by
    show (BitVec.ofNat 64 k).toNat = k
    rw [BitVec.toNat_ofNat, Nat.mod_eq_of_lt (by omega)]
  have h2 : (lN n).toUInt64.toNat = n := wb_tn hn
  rw [UInt64.toNat_shiftRight, h1, h2, Nat.mod_eq_of_lt hk, Nat.shiftRight_eq_div_pow, BitVec.toNat_ofNat, Nat.mod_eq_of_lt (Nat.lt_of_le_of_lt (Nat.div_le_self _ _) hn)]
theorem wb_shl (n : Nat) {k : Nat} (hk : k < 64) : lN n <<< ((nI k).toInt64 &&& 63) = lN (n * 2 ^ k) := by
  rw [wb_c k hk]
  apply wb_inj
  rw [Int64.toBitVec_shiftLeft, wb_tb, wb_tb, wb_tb, wb_sm k hk]
  apply BitVec.eq_of_toNat_eq
  rw [BitVec.shiftLeft_eq', BitVec.toNat_shiftLeft, BitVec.toNat_ofNat, BitVec.toNat_ofNat, BitVec.toNat_ofNat, Nat.mod_eq_of_lt (show k < 2 ^ 64 by omega), Nat.shiftLeft_eq, Nat.mul_mod, Nat.mod_mod, ← Nat.mul_mod]
theorem wb_and {a b : Nat} (ha : a < 2 ^ 64) (hb : b < 2 ^ 64) : lN a &&& lN b = lN (a &&& b) := by
  apply wb_inj
  rw [Int64.toBitVec_and, wb_tb, wb_tb, wb_tb]
  apply BitVec.eq_of_toNat_eq
  rw [BitVec.toNat_and, BitVec.toNat_ofNat, BitVec.toNat_ofNat, BitVec.toNat_ofNat, Nat.mod_eq_of_lt ha, Nat.mod_eq_of_lt hb, Nat.mod_eq_of_lt (Nat.and_lt_two_pow _ hb)]
theorem wb_or {a b : Nat} (ha : a < 2 ^ 64) (hb : b < 2 ^ 64) : lN a ||| lN b = lN (a ||| b) := by
  apply wb_inj
  rw [Int64.toBitVec_or, wb_tb, wb_tb, wb_tb]
  apply BitVec.eq_of_toNat_eq
  rw [BitVec.toNat_or, BitVec.toNat_ofNat, BitVec.toNat_ofNat, BitVec.toNat_ofNat, Nat.mod_eq_of_lt ha, Nat.mod_eq_of_lt hb, Nat.mod_eq_of_lt (Nat.or_lt_two_pow ha hb)]
theorem wb_mask {n k : Nat} (hn : n < 2 ^ 64) (hk : k < 64) : lN n &&& lN (2 ^ k - 1) = lN (n % 2 ^ k) := by
  rw [wb_and hn (by have := wb_lt2 hk; omega), Nat.and_two_pow_sub_one_eq_mod]
theorem wb_a1 {n : Nat} (hn : n < 2 ^ 64) : lN n &&& 1 = lN (n % 2) := wb_mask (k := 1) hn (by decide)
theorem wb_bit {n k : Nat} (hn : n < 2 ^ 64) (hk : k < 64) : ((lN n).toUInt64 >>> ((nI k).toInt64.toUInt64 &&& Int64.toUInt64 63)).toInt64 &&& 1 = lN (n / 2 ^ k % 2) := by
  rw [wb_shr hn hk, wb_a1 (Nat.lt_of_le_of_lt (Nat.div_le_self _ _) hn)]
theorem wb_xor {q k : Nat} (hk : k < 63) (h : 2 ^ k ≤ q) (h2 : q < 2 ^ (k + 1)) : lN q ^^^ lN (2 ^ k) = lN (q - 2 ^ k) := by
  obtain ⟨r, rfl⟩ : ∃ r, q = 2 ^ k + r := ⟨q - 2 ^ k, by omega⟩
  have hr : r < 2 ^ k := by rw [Nat.pow_succ] at h2; omega
  have hx : (2 ^ k + r) ^^^ 2 ^ k = r := by
    apply Nat.eq_of_testBit_eq
    intro i
    rw [Nat.testBit_xor, Nat.testBit_two_pow]
    rcases Nat.lt_trichotomy i k with h | h | h
    · rw [Nat.testBit_two_pow_add_gt h]
      simp [show ¬ k = i by omega]
    · subst h
      rw [Nat.testBit_two_pow_add_eq]
      simp
    · have a1 : 2 ^ (k + 1) ≤ 2 ^ i := Nat.pow_le_pow_right (by decide) h
      rw [Nat.testBit_lt_two_pow (show 2 ^ k + r < 2 ^ i by omega), Nat.testBit_lt_two_pow (show r < 2 ^ i by omega)]
      simp [show ¬ k = i by omega]
  have b1 := wb_lt2 (show k + 1 < 64 by omega)
  have b2 := wb_lt2 (show k < 64 by omega)
  apply wb_inj
  rw [Int64.toBitVec_xor, wb_tb, wb_tb, wb_tb]
  apply BitVec.eq_of_toNat_eq
  rw [BitVec.toNat_xor, BitVec.toNat_ofNat, BitVec.toNat_ofNat, BitVec.toNat_ofNat, Nat.mod_eq_of_lt (by omega : 2 ^ k + r < 2 ^ 64), Nat.mod_eq_of_lt b2, hx, Nat.add_sub_cancel_left, Nat.mod_eq_of_lt (by omega)]
/-! ===== lN: masks, 'or' of parts that don't overlap is a sum ===== -/
theorem u_tn {n : Nat} (h : n < 2 ^ 64) : (UInt64.ofNat n).toNat = n := Nat.mod_eq_of_lt h
theorem g_and {a b c : Nat} (ha : a < 2 ^ 64) (hb : b < 2 ^ 64) (hc : a &&& b = c) : lN a &&& lN b = lN c := by
  subst hc
  have h : UInt64.ofNat a &&& UInt64.ofNat b = UInt64.ofNat (a &&& b) := UInt64.toNat_inj.mp (by rw [UInt64.toNat_and, u_tn ha, u_tn hb, u_tn (Nat.and_lt_two_pow a hb)])
  have h2 := congrArg UInt64.toInt64 h
  exact h2
theorem g_and1 {a : Nat} (ha : a < 2 ^ 64) : lN a &&& 1 = lN (a % 2) := g_and (b := 1) ha (by decide) (Nat.and_two_pow_sub_one_eq_mod a 1)
theorem g_mask {a s p : Nat} (hp : 2 ^ s = p) (hs : s < 64) (ha : a < 2 ^ 64) : lN a &&& lN (p - 1) = lN (a % p) := by
  subst hp
  have := Nat.pow_lt_pow_right (show 1 < 2 by decide) hs
  exact g_and ha (by omega) (Nat.and_two_pow_sub_one_eq_mod a s)
theorem g_or {k p a b : Nat} (hp : 2 ^ k = p) (ha : a < p) (h : b * p + a < 2 ^ 64) : lN (b * p) ||| lN a = lN (b * p + a) := by
  subst hp
  have h1 : b * 2 ^ k ||| a = b * 2 ^ k + a := by rw [← Nat.shiftLeft_eq, Nat.shiftLeft_add_eq_or_of_lt ha]
  have h3 : UInt64.ofNat (b * 2 ^ k) ||| UInt64.ofNat a = UInt64.ofNat (b * 2 ^ k + a) := UInt64.toNat_inj.mp (by rw [UInt64.toNat_or, u_tn (by omega), u_tn (by omega), u_tn h, h1])
  have h2 := congrArg UInt64.toInt64 h3
  exact h2
theorem g_or' {k p a b : Nat} (hp : 2 ^ k = p) (ha : a < p) (h : a + b * p < 2 ^ 64) : lN a ||| lN (b * p) = lN (a + b * p) := by
  rw [Int64.or_comm, g_or hp ha (by omega), Nat.add_comm]
theorem g_ushr {a k p : Nat} {y : UInt64} (hy : y = UInt64.ofNat k) (hk : k < 64) (hp : 2 ^ k = p) (ha : a < 2 ^ 64) : ((lN a).toUInt64 >>> y).toInt64 = lN (a / p) := by
  subst hy hp
  have h : UInt64.ofNat a >>> UInt64.ofNat k = UInt64.ofNat (a / 2 ^ k) := UInt64.toNat_inj.mp (by rw [UInt64.toNat_shiftRight, u_tn ha, u_tn (by omega), u_tn (Nat.lt_of_le_of_lt (Nat.div_le_self _ _) ha), Nat.mod_eq_of_lt hk, Nat.shiftRight_eq_div_pow])
  have h2 := congrArg UInt64.toInt64 h
  exact h2
theorem g_shl {a k p : Nat} {y : Int64} (hy : y.toBitVec.smod 64 = BitVec.ofNat 64 k) (hk : k < 64) (hp : 2 ^ k = p) (ha : a < 2 ^ 64) : lN a <<< y = lN (a * p) := by
  subst hp
  apply Int64.toBitVec_inj.mp
  rw [Int64.toBitVec_shiftLeft, hy]
  apply BitVec.eq_of_toNat_eq
  have hb : (lN a).toBitVec.toNat = a := Nat.mod_eq_of_lt ha
  have hk' : (BitVec.ofNat 64 k).toNat = k := Nat.mod_eq_of_lt (by omega)
  have h : ((lN a).toBitVec <<< BitVec.ofNat 64 k).toNat = (a * 2 ^ k) % 2 ^ 64 := by simp only [BitVec.shiftLeft_eq', BitVec.toNat_shiftLeft, hb, hk', Nat.shiftLeft_eq]
  exact h
/-! ===== Int64 as an unsigned number: uN x ===== -/
def uN (x : Int64) : Nat := x.toUInt64.toNat
theorem uN_lt (x : Int64) : uN x < 18446744073709551616 := x.toUInt64.toNat_lt
theorem uN_inj {x y : Int64} (h : uN x = uN y) : x = y := congrArg UInt64.toInt64 (UInt64.toNat_inj.mp h)
theorem uN_add (x y : Int64) : uN (x + y) = (uN x + uN y) % 18446744073709551616 := by
  show (x.toUInt64 + y.toUInt64).toNat = _
  exact UInt64.toNat_add _ _
theorem uN_mul (x y : Int64) : uN (x * y) = (uN x * uN y) % 18446744073709551616 := by
  show (x.toUInt64 * y.toUInt64).toNat = _
  exact UInt64.toNat_mul _ _
theorem uN_shl (x : Int64) : uN (x <<< ((1 : Int32).toInt64 &&& 63)) = (2 * uN x) % 18446744073709551616 := by
  have h : (((1 : Int32).toInt64 &&& 63).toBitVec.smod 64).toNat = 1 := by decide
  show (x.toBitVec <<< (((1 : Int32).toInt64 &&& 63).toBitVec.smod 64).toNat).toNat = _
  rw [h, BitVec.toNat_shiftLeft, Nat.shiftLeft_eq, Nat.mul_comm]
  rfl
theorem uN_shr (x : Int64) (s : UInt64) : uN (x.toUInt64 >>> s).toInt64 = uN x / 2 ^ (s.toNat % 64) := by
  show (x.toUInt64 >>> s).toNat = _
  rw [UInt64.toNat_shiftRight, Nat.shiftRight_eq_div_pow]
  rfl
theorem uN_s32 (x : Int64) : uN (x.toUInt64 >>> ((32 : Int32).toInt64.toUInt64 &&& Int64.toUInt64 63)).toInt64 = uN x / 4294967296 := by
  have h : ((32 : Int32).toInt64.toUInt64 &&& Int64.toUInt64 63).toNat % 64 = 32 := by decide
  rw [uN_shr, h]
theorem uN_s63 (x : Int64) : uN (x.toUInt64 >>> ((63 : Int32).toInt64.toUInt64 &&& Int64.toUInt64 63)).toInt64 = uN x / 9223372036854775808 := by
  have h : ((63 : Int32).toInt64.toUInt64 &&& Int64.toUInt64 63).toNat % 64 = 63 := by decide
  rw [uN_shr, h]
theorem uN_lo (x : Int64) : uN (x &&& 4294967295) = uN x % 4294967296 := by
  show (x.toUInt64 &&& Int64.toUInt64 4294967295).toNat = _
  rw [UInt64.toNat_and]
  exact Nat.and_two_pow_sub_one_eq_mod _ 32
theorem uN_bit (x : Int64) : (x &&& 1) = 0 ↔ uN x % 2 = 0 := by
  have h : uN (x &&& 1) = uN x % 2 := by
    show (x.toUInt64 &&& Int64.toUInt64 1).toNat = _
    rw [UInt64.toNat_and]
    exact Nat.and_two_pow_sub_one_eq_mod _ 1
  rw [← h]
  exact ⟨fun z => by rw [z]; rfl, fun z => uN_inj (z.trans rfl)⟩
theorem uN_or {x y : Int64} (hy : uN y < 2) : uN ((x <<< ((1 : Int32).toInt64 &&& 63)) ||| y) = (2 * uN x) % 18446744073709551616 + uN y := by
  have h1 : uN ((x <<< ((1 : Int32).toInt64 &&& 63)) ||| y) = uN (x <<< ((1 : Int32).toInt64 &&& 63)) ||| uN y := UInt64.toNat_or _ _
  have h2 : (2 * uN x) % 18446744073709551616 = 2 ^ 1 * (uN x % 9223372036854775808) := by omega
  rw [h1, uN_shl, h2]
  exact (Nat.two_pow_add_eq_or_of_lt (i := 1) hy _).symm
theorem nat_xor {a : Nat} (h : a < 18446744073709551616) : a ^^^ 2 ^ 63 = (a + 9223372036854775808) % 18446744073709551616 := by
  have h1 : (a ^^^ 2 ^ 63) % 2 ^ 63 = a % 2 ^ 63 := by rw [Nat.xor_mod_two_pow, Nat.mod_self, Nat.xor_zero]
  have h2 : (a ^^^ 2 ^ 63) / 2 ^ 63 = (a / 2 ^ 63) ^^^ 1 := by rw [Nat.xor_div_two_pow, Nat.div_self (Nat.two_pow_pos 63)]
  have h3 : a / 2 ^ 63 = 0 ∨ a / 2 ^ 63 = 1 := by omega
  generalize a ^^^ 2 ^ 63 = t at h1 h2
  rcases h3 with h3 | h3
  · rw [h3] at h2
    have h2 : t / 2 ^ 63 = 1 := h2
    omega
  · rw [h3] at h2
    have h2 : t / 2 ^ 63 = 0 := h2
    omega
theorem uN_xor (x : Int64) : uN (x ^^^ (-9223372036854775808)) = (uN x + 9223372036854775808) % 18446744073709551616 := by
  rw [← nat_xor (uN_lt x)]
  exact UInt64.toNat_xor _ _
theorem uN_int (x : Int64) : x.toInt = if 2 * uN x < 18446744073709551616 then (uN x : Int) else (uN x : Int) - 18446744073709551616 := BitVec.toInt_eq_toNat_cond _
theorem uN_le (x y : Int64) : (x ^^^ (-9223372036854775808)) ≤ (y ^^^ (-9223372036854775808)) ↔ uN x ≤ uN y := by
  have hx := uN_lt x
  have hy := uN_lt y
  rw [Int64.le_iff_toInt_le, uN_int, uN_int, uN_xor, uN_xor]
  omega
theorem uN_sk (x : Int64) {k : Nat} (hk : k < 64) : uN (x.toUInt64 >>> ((nI k).toInt64.toUInt64 &&& Int64.toUInt64 63)).toInt64 = uN x / 2 ^ k := by
  have h : ((nI k).toInt64.toUInt64 &&& Int64.toUInt64 63).toNat % 64 = k := by
    rw [nI_l (by omega), UInt64.toNat_and]
    have e : (lN k).toUInt64.toNat = k % 2 ^ 64 := rfl
    have e2 : (Int64.toUInt64 63).toNat = 2 ^ 6 - 1 := by decide
    rw [e, e2, Nat.and_two_pow_sub_one_eq_mod]
    omega
  rw [uN_shr, h]
end
section
/-! numbers in bytes: as plain numbers -/
def rn (B : Nat → Nat) (a : Nat) : Nat → Nat
  | 0 => 0
  | k + 1 => rn B a k * 256 + B (a + k)
theorem rn_lt {B : Nat → Nat} (hB : ∀ j, B j < 256) (a : Nat) : ∀ k, rn B a k < 256 ^ k := by
  intro k
  induction k with
  | zero => exact Nat.one_pos
  | succ k ih =>
    have := hB (a + k)
    rw [Nat.pow_succ]
    show rn B a k * 256 + B (a + k) < _
    omega
theorem rd_rn {B : Nat → Nat} (hB : ∀ j, B j < 256) (a : Nat) : ∀ k, k ≤ 8 → rd B a k = lN (rn B a k) := by
  intro k
  induction k with
  | zero => intro _; rfl
  | succ k ih =>
    intro hk
    have h1 := ih (by omega)
    have h2 := hB (a + k)
    have h3 := rn_lt hB a k
    have h4 : rn B a k * 256 + B (a + k) < 2 ^ 64 := by
      have h5 : (256 : Nat) ^ k ≤ 256 ^ 7 := Nat.pow_le_pow_right (by decide) (by omega)
      have h6 : (256 : Nat) ^ 7 = 72057594037927936 := by decide
      omega
    show (rd B a k <<< ((8 : Int32).toInt64 &&& 63)) ||| (nI (B (a + k))).toInt64 = _
    rw [h1, show (8 : Int32) = nI 8 from rfl, wb_shl _ (by decide), nI_l (by omega)]
    exact g_or (k := 8) (p := 2 ^ 8) rfl (by omega) (by omega)
theorem b_facts : ∀ b, b < 256 → 8 ≤ kd b → wd b ≤ 4 ∧ (wd b = 0 → ow b = lN (ow b).toBitVec.toNat ∧ (ow b).toBitVec.toNat < 32) := by decide +kernel
theorem kd_5 : ∀ b, b < 256 → 8 ≤ kd b → ¬ kd b = 5 := by decide +kernel
/-- the number of a head that has a length or a count is a plain one, below 2^32 -/
theorem nv_nat {B : Nat → Nat} (hB : ∀ j, B j < 256) {a : Nat} (h : 8 ≤ kd (B a)) : ∃ v, v < 4294967296 ∧ nv B a = lN v := by
  obtain ⟨h1, h2⟩ := b_facts (B a) (hB a) h
  unfold nv
  by_cases hw : wd (B a) = 0
  · rw [if_pos hw]
    obtain ⟨h3, h4⟩ := h2 hw
    exact ⟨_, by omega, h3⟩
  · rw [if_neg hw, if_neg (kd_5 _ (hB a) h), rd_rn hB _ _ (by omega)]
    refine ⟨_, ?_, rfl⟩
    have h5 := rn_lt hB (a + 1) (wd (B a))
    have h6 : (256 : Nat) ^ (wd (B a)) ≤ 256 ^ 4 := Nat.pow_le_pow_right (by decide) h1
    have h7 : (256 : Nat) ^ 4 = 4294967296 := by decide
    omega
theorem hp_ge : ∀ k, hp k = true → 8 ≤ k := by
  intro k h
  simp only [hp, Bool.or_eq_true, beq_iff_eq] at h
  omega
theorem lN_32 {v : Nat} : (lN v).toInt32 = nI v := lN_i v
/-- behind a look that answers a kind -/
theorem lk_ok {B : Nat → Nat} (hB : ∀ j, B j < 256) {n a : Nat} (hn : n ≤ 4096) (ha : a ≤ 4096) (h : ¬ lkS B n a < 0) :
    a < n ∧ a + hd (B a) ≤ n ∧ (∃ v : Nat, v ≤ n ∧ pl B a = nI v ∧ nx B a = a + hd (B a) + v ∧ a + hd (B a) + v ≤ n) ∧ lkS B n a = nI (kd (B a)) ∧ (8 ≤ kd (B a) → nv B a ≤ 2147483647) ∧ ¬ B a = 193 := by
  have hh := hd_le _ (hB a)
  have hk := kd_le _ (hB a)
  unfold lkS at h ⊢
  by_cases h1 : nI a < nI n
  · rw [if_pos h1] at h ⊢
    have h1' : a < n := (nI_ltI (by omega) (by omega)).mp h1
    by_cases h2 : nI (B a) = 193
    · rw [if_pos h2] at h; exact absurd (by decide) h
    · rw [if_neg h2] at h ⊢
      have h2' : ¬ B a = 193 := fun z => h2 (by rw [z]; rfl)
      by_cases h3 : (0 : Int32) ≤ nI n - nI a - nI (hd (B a))
      · rw [if_pos h3] at h ⊢
        have h3' := nI_room hn h1' hh.2.1 h3
        have h8 : nI (kd (B a)) < 8 ↔ kd (B a) < 8 := nI_ltI (b := 8) (by omega) (by decide)
        have key : pl B a ≤ nI n - nI a - nI (hd (B a)) → (8 ≤ kd (B a) → nv B a ≤ 2147483647) → (∃ v : Nat, v ≤ n ∧ pl B a = nI v ∧ nx B a = a + hd (B a) + v ∧ a + hd (B a) + v ≤ n) := by
          intro q1 q2
          rw [nI_room_eq h3'] at q1
          have hv : ∃ v : Nat, v < 2 ^ 31 ∧ pl B a = nI v := by
            unfold pl
            by_cases hq : hp (kd (B a)) = true
            · rw [if_pos hq]
              obtain ⟨v, hv, e⟩ := nv_nat hB (hp_ge _ hq)
              have q3 := q2 (hp_ge _ hq)
              rw [e, show (2147483647 : Int64) = lN 2147483647 from rfl, pk_lLE (by omega) (by decide)] at q3
              exact ⟨v, by omega, by rw [e, lN_32]⟩
            · rw [if_neg hq]; exact ⟨0, by decide, rfl⟩
          obtain ⟨v, hv, e⟩ := hv
          rw [e, nI_leI hv (by omega)] at q1
          refine ⟨v, by omega, e, ?_, by omega⟩
          unfold nx
          rw [e, nI_clamp hv]
        by_cases h4 : nI (kd (B a)) < 8
        · rw [if_pos h4] at h ⊢
          have h4' := h8.mp h4
          by_cases h5 : pl B a ≤ nI n - nI a - nI (hd (B a))
          · rw [if_pos h5]
            exact ⟨h1', h3', key h5 (fun z => by omega), rfl, fun z => by omega, h2'⟩
          · rw [if_neg h5] at h; exact absurd (by decide) h
        · rw [if_neg h4] at h ⊢
          by_cases h6 : nv B a ≤ 2147483647
          · rw [if_pos h6] at h ⊢
            by_cases h5 : pl B a ≤ nI n - nI a - nI (hd (B a))
            · rw [if_pos h5]
              exact ⟨h1', h3', key h5 (fun _ => h6), rfl, fun _ => h6, h2'⟩
            · rw [if_neg h5] at h; exact absurd (by decide) h
          · rw [if_neg h6] at h; exact absurd (by decide) h
      · rw [if_neg h3] at h; exact absurd (by decide) h
  · rw [if_neg h1] at h; exact absurd (by decide) h
theorem nx_eq {B : Nat → Nat} (hB : ∀ j, B j < 256) {n a : Nat} (hn : n ≤ 4096) (ha : a ≤ 4096) (h : ¬ lkS B n a < 0) : nI a + nI (hd (B a)) + pl B a = nI (nx B a) ∧ nx B a ≤ n ∧ a < nx B a ∧ a + 1 + wd (B a) ≤ n := by
  obtain ⟨h1, h2, ⟨v, h3, h4, h5, h6⟩, -⟩ := lk_ok hB hn ha h
  have hh := hd_le _ (hB a)
  refine ⟨?_, by omega, by omega, by omega⟩
  rw [h4, nI_add, nI_add, h5]
end
section
set_option maxHeartbeats 4000000 in
set_option maxRecDepth 100000 in
theorem c_X0_kindOf (l : Launch) (dC : Nat → ClassId) (dI : Nat → Nat → Nat) (tk tw : Nat) (sz : Nat) (b9 : Nat) (hb9 : b9 < 256) : Met l yX0_kindOf wsX0_kindOf ({ frames := 0, cells := 0, slots := 0, locals := 0 }) (va_Pc [.int (nI b9)] (p0 sz tk tw)) (va_Qi (fun (r : Int32) (_ : Unit) => r = nI (kd b9)) (fun _ _ => True) (va_A [] sz)) 0 0 (va_A [] sz) := by
  refine Met.ofW (cc := cX0_kindOf) (maxL := 1) (ret := (some .int)) (by decide) rfl ?_
  intro p e s m args below meth c s₁ Bd hml hv
  obtain ⟨rfl, hsz, hZ⟩ := hv
  have hx := Bd.exec
  have hb := Bd.bytes
  have hr := Bd.returns
  have hts := atoms_spec (ws := wsX0_kindOf) Bd.pre
  have hown : s.vm.findClass RX0 = some m.cls := findClass_of_methodNamed Bd.named
  have hlocks := Bd.notSynchronized
  subst hsz
  generalize hAe : va_A [] s.heap.size = A at hZ ⊢
  have hA : ∀ q : Nat, s.heap.size ≤ q → A q := fun q h => by rw [← hAe]; exact Or.inr h
  have hS : va_S A s.heap s.heap [] := va_S.rf
  have hP : va_P (dC, dI) vwCl [] s.heap := fun k q h => by simp at h
  have hl := lv_entry ([.int (nI b9)]) (n := 1) (Nat.le_of_ble_eq_true rfl)
  rw [lg_entry_eq]
  generalize (lg_sl ([.int (nI b9)]) ++ List.replicate (1 - (lg_sl ([.int (nI b9)])).length) Slot.unset).toArray = ls at hl ⊢
  have hl : lv_has ls 1 [(0, .int (nI b9))] := hl
  refine lv_iload_n hx hb dX0_kindOf_0 rfl (lv_at hl 0 rfl) ?_
  refine lv_sipush (v := 128) hx hb dX0_kindOf_1 (by decide) ?_
  refine lv_icmp_ge (tgt := 9) hx hb dX0_kindOf_4 (by decide) (fun c_1 => ?_) (fun c_1 => ?_)
  · skip
    refine lv_iload_n hx hb dX0_kindOf_9 rfl (lv_at hl 0 rfl) ?_
    refine lv_sipush (v := 144) hx hb dX0_kindOf_10 (by decide) ?_
    refine lv_icmp_ge (tgt := 19) hx hb dX0_kindOf_13 (by decide) (fun c_2 => ?_) (fun c_2 => ?_)
    · skip
      refine lv_iload_n hx hb dX0_kindOf_19 rfl (lv_at hl 0 rfl) ?_
      refine lv_sipush (v := 160) hx hb dX0_kindOf_20 (by decide) ?_
      refine lv_icmp_ge (tgt := 29) hx hb dX0_kindOf_23 (by decide) (fun c_3 => ?_) (fun c_3 => ?_)
      · skip
        refine lv_iload_n hx hb dX0_kindOf_29 rfl (lv_at hl 0 rfl) ?_
        refine lv_sipush (v := 192) hx hb dX0_kindOf_30 (by decide) ?_
        refine lv_icmp_ge (tgt := 39) hx hb dX0_kindOf_33 (by decide) (fun c_4 => ?_) (fun c_4 => ?_)
        · skip
          refine lv_iload_n hx hb dX0_kindOf_39 rfl (lv_at hl 0 rfl) ?_
          refine lv_sipush (v := 223) hx hb dX0_kindOf_40 (by decide) ?_
          refine lv_icmp_le (tgt := 50) hx hb dX0_kindOf_43 (by decide) (fun c_5 => ?_) (fun c_5 => ?_)
          · skip
            refine va_gets hx hb hZ.1 hS hown (hts (.fieldLink RX0 133 "MessageReader" "ROW_KIND" "[I") (by decide +kernel)) (fun _ h9 => h9) dX0_kindOf_50 ?_
            refine lv_iload_n hx hb dX0_kindOf_53 rfl (lv_at hl 0 rfl) ?_
            refine lv_sipush (v := 192) hx hb dX0_kindOf_54 (by decide) ?_
            refine lv_isub hx hb dX0_kindOf_57 ?_
            refine va_ti hx hb hZ.2.1 hS (row_in b9 hb9 (by assumption) (by assumption)) rfl dX0_kindOf_58 ?_
            exact W.iret (v := rK ((nI b9) - 192).toNatClampNeg) hx hb hr (fun t ht hW => ⟨⟨rK ((nI b9) - 192).toNatClampNeg, (), rfl, (by rw [← sK_kd b9 hb9]; unfold sK; rw [if_pos c_1, if_pos c_2, if_pos c_3, if_pos c_4, if_pos c_5]), trivial⟩, hS.F ht⟩) hS.2.2 dX0_kindOf_59
          · skip
            refine lv_iconst (v := 5) hx hb dX0_kindOf_46 (by decide) ?_
            refine lv_goto (tgt := 59) hx hb dX0_kindOf_47 (by decide) ?_
            exact W.iret (v := 5) hx hb hr (fun t ht hW => ⟨⟨5, (), rfl, (by rw [← sK_kd b9 hb9]; unfold sK; rw [if_pos c_1, if_pos c_2, if_pos c_3, if_pos c_4, if_neg c_5]), trivial⟩, hS.F ht⟩) hS.2.2 dX0_kindOf_59
        · skip
          refine lv_bipush (v := 8) hx hb dX0_kindOf_36 (by decide) ?_
          exact W.iret (v := 8) hx hb hr (fun t ht hW => ⟨⟨8, (), rfl, (by rw [← sK_kd b9 hb9]; unfold sK; rw [if_pos c_1, if_pos c_2, if_pos c_3, if_neg c_4]), trivial⟩, hS.F ht⟩) hS.2.2 dX0_kindOf_38
      · skip
        refine lv_bipush (v := 10) hx hb dX0_kindOf_26 (by decide) ?_
        exact W.iret (v := 10) hx hb hr (fun t ht hW => ⟨⟨10, (), rfl, (by rw [← sK_kd b9 hb9]; unfold sK; rw [if_pos c_1, if_pos c_2, if_neg c_3]), trivial⟩, hS.F ht⟩) hS.2.2 dX0_kindOf_28
    · skip
      refine lv_bipush (v := 11) hx hb dX0_kindOf_16 (by decide) ?_
      exact W.iret (v := 11) hx hb hr (fun t ht hW => ⟨⟨11, (), rfl, (by rw [← sK_kd b9 hb9]; unfold sK; rw [if_pos c_1, if_neg c_2]), trivial⟩, hS.F ht⟩) hS.2.2 dX0_kindOf_18
  · skip
    refine lv_iconst (v := 4) hx hb dX0_kindOf_7 (by decide) ?_
    exact W.iret (v := 4) hx hb hr (fun t ht hW => ⟨⟨4, (), rfl, (by rw [← sK_kd b9 hb9]; unfold sK; rw [if_neg c_1]), trivial⟩, hS.F ht⟩) hS.2.2 dX0_kindOf_8
set_option maxHeartbeats 4000000 in
set_option maxRecDepth 100000 in
theorem c_X0_width (l : Launch) (dC : Nat → ClassId) (dI : Nat → Nat → Nat) (tk tw : Nat) (sz : Nat) (b9 : Nat) (hb9 : b9 < 256) : Met l yX0_width wsX0_width ({ frames := 0, cells := 0, slots := 0, locals := 0 }) (va_Pc [.int (nI b9)] (p0 sz tk tw)) (va_Qi (fun (r : Int32) (_ : Unit) => r = nI (wd b9)) (fun _ _ => True) (va_A [] sz)) 0 0 (va_A [] sz) := by
  refine Met.ofW (cc := cX0_width) (maxL := 1) (ret := (some .int)) (by decide) rfl ?_
  intro p e s m args below meth c s₁ Bd hml hv
  obtain ⟨rfl, hsz, hZ⟩ := hv
  have hx := Bd.exec
  have hb := Bd.bytes
  have hr := Bd.returns
  have hts := atoms_spec (ws := wsX0_width) Bd.pre
  have hown : s.vm.findClass RX0 = some m.cls := findClass_of_methodNamed Bd.named
  have hlocks := Bd.notSynchronized
  subst hsz
  generalize hAe : va_A [] s.heap.size = A at hZ ⊢
  have hA : ∀ q : Nat, s.heap.size ≤ q → A q := fun q h => by rw [← hAe]; exact Or.inr h
  have hS : va_S A s.heap s.heap [] := va_S.rf
  have hP : va_P (dC, dI) vwCl [] s.heap := fun k q h => by simp at h
  have hl := lv_entry ([.int (nI b9)]) (n := 1) (Nat.le_of_ble_eq_true rfl)
  rw [lg_entry_eq]
  generalize (lg_sl ([.int (nI b9)]) ++ List.replicate (1 - (lg_sl ([.int (nI b9)])).length) Slot.unset).toArray = ls at hl ⊢
  have hl : lv_has ls 1 [(0, .int (nI b9))] := hl
  refine lv_iload_n hx hb dX0_width_0 rfl (lv_at hl 0 rfl) ?_
  refine lv_sipush (v := 192) hx hb dX0_width_1 (by decide) ?_
  refine lv_icmp_lt (tgt := 14) hx hb dX0_width_4 (by decide) (fun c_1 => ?_) (fun c_1 => ?_)
  · skip
    refine lv_iconst (v := 0) hx hb dX0_width_14 (by decide) ?_
    refine lv_goto (tgt := 27) hx hb dX0_width_15 (by decide) ?_
    exact W.iret (v := 0) hx hb hr (fun t ht hW => ⟨⟨0, (), rfl, (by rw [← sW_wd b9 hb9]; unfold sW; rw [if_pos c_1]), trivial⟩, hS.F ht⟩) hS.2.2 dX0_width_27
  · skip
    refine lv_iload_n hx hb dX0_width_7 rfl (lv_at hl 0 rfl) ?_
    refine lv_sipush (v := 223) hx hb dX0_width_8 (by decide) ?_
    refine lv_icmp_le (tgt := 18) hx hb dX0_width_11 (by decide) (fun c_2 => ?_) (fun c_2 => ?_)
    · skip
      refine va_gets hx hb hZ.2.2.1 hS hown (hts (.fieldLink RX0 137 "MessageReader" "ROW_WIDTH" "[I") (by decide +kernel)) (fun _ h9 => h9) dX0_width_18 ?_
      refine lv_iload_n hx hb dX0_width_21 rfl (lv_at hl 0 rfl) ?_
      refine lv_sipush (v := 192) hx hb dX0_width_22 (by decide) ?_
      refine lv_isub hx hb dX0_width_25 ?_
      refine va_ti hx hb hZ.2.2.2 hS (row_in2 b9 hb9 (by assumption) (by assumption)) rfl dX0_width_26 ?_
      exact W.iret (v := rW ((nI b9) - 192).toNatClampNeg) hx hb hr (fun t ht hW => ⟨⟨rW ((nI b9) - 192).toNatClampNeg, (), rfl, (by rw [← sW_wd b9 hb9]; unfold sW; rw [if_neg c_1, if_pos c_2]), trivial⟩, hS.F ht⟩) hS.2.2 dX0_width_27
    · skip
      refine lv_iconst (v := 0) hx hb dX0_width_14 (by decide) ?_
      refine lv_goto (tgt := 27) hx hb dX0_width_15 (by decide) ?_
      exact W.iret (v := 0) hx hb hr (fun t ht hW => ⟨⟨0, (), rfl, (by rw [← sW_wd b9 hb9]; unfold sW; rw [if_neg c_1, if_neg c_2]), trivial⟩, hS.F ht⟩) hS.2.2 dX0_width_27
set_option maxHeartbeats 4000000 in
set_option maxRecDepth 100000 in
theorem c_X0_typeWidth (l : Launch) (dC : Nat → ClassId) (dI : Nat → Nat → Nat) (tk tw : Nat) (sz : Nat) (b9 : Nat) (hb9 : b9 < 256) : Met l yX0_typeWidth wsX0_typeWidth ({ frames := 1, cells := 0, slots := 0, locals := 20 }) (va_Pc [.int (nI b9)] (p0 sz tk tw)) (va_Qi (fun (r : Int32) (_ : Unit) => r = nI (tW b9)) (fun _ _ => True) (va_A [] sz)) 0 0 (va_A [] sz) := by
  refine Met.ofW (cc := cX0_typeWidth) (maxL := 1) (ret := (some .int)) (by decide) rfl ?_
  intro p e s m args below meth c s₁ Bd hml hv
  obtain ⟨rfl, hsz, hZ⟩ := hv
  have hx := Bd.exec
  have hb := Bd.bytes
  have hr := Bd.returns
  have hts := atoms_spec (ws := wsX0_typeWidth) Bd.pre
  have hown : s.vm.findClass RX0 = some m.cls := findClass_of_methodNamed Bd.named
  have hlocks := Bd.notSynchronized
  subst hsz
  generalize hAe : va_A [] s.heap.size = A at hZ ⊢
  have hA : ∀ q : Nat, s.heap.size ≤ q → A q := fun q h => by rw [← hAe]; exact Or.inr h
  have hS : va_S A s.heap s.heap [] := va_S.rf
  have hP : va_P (dC, dI) vwCl [] s.heap := fun k q h => by simp at h
  have hl := lv_entry ([.int (nI b9)]) (n := 1) (Nat.le_of_ble_eq_true rfl)
  rw [lg_entry_eq]
  generalize (lg_sl ([.int (nI b9)]) ++ List.replicate (1 - (lg_sl ([.int (nI b9)])).length) Slot.unset).toArray = ls at hl ⊢
  have hl : lv_has ls 1 [(0, .int (nI b9))] := hl
  refine lv_iload_n hx hb dX0_typeWidth_0 rfl (lv_at hl 0 rfl) ?_
  refine gsi (As := [.int (nI b9)]) (rest := []) ⟨hx, hb, hml, hown, hts⟩ (c_X0_kindOf l dC dI tk tw _ b9 hb9) (va_cwS 1 hts gX0_typeWidth_X0_kindOf rfl rfl rfl (by decide +kernel) ⟨Nat.le_of_ble_eq_true rfl, Nat.le_of_ble_eq_true rfl⟩) hP hS hA hZ rfl hl.1 rfl (Nat.le_of_ble_eq_true rfl) dX0_typeWidth_1 ⟨Nat.le_of_ble_eq_true rfl, Nat.le_of_ble_eq_true rfl⟩ (fun r_2 H locs hw_1 hP hS => ?_)
  obtain rfl : r_2 = nI (kd b9) := hw_1
  refine lv_bipush (v := 12) hx hb dX0_typeWidth_4 (by decide) ?_
  refine lv_icmp_ne (tgt := 13) hx hb dX0_typeWidth_6 (by decide) (fun c_3 => ?_) (fun c_3 => ?_)
  · skip
    refine lv_iconst (v := 0) hx hb dX0_typeWidth_13 (by decide) ?_
    exact W.iret (v := 0) hx hb hr (fun t ht hW => ⟨⟨0, (), rfl, (by unfold tW; have q9 := nI_e12 (kd b9) (kd_le b9 hb9) 12 (by decide); have q8 : (12 : Int32) = nI 12 := rfl; rw [q8] at c_3; rw [if_neg (fun z => c_3 (q9.mpr z))]; rfl), trivial⟩, hS.F ht⟩) hS.2.2 dX0_typeWidth_14
  · skip
    refine lv_iconst (v := 1) hx hb dX0_typeWidth_9 (by decide) ?_
    refine lv_goto (tgt := 14) hx hb dX0_typeWidth_10 (by decide) ?_
    exact W.iret (v := 1) hx hb hr (fun t ht hW => ⟨⟨1, (), rfl, (by unfold tW; have q9 := nI_e12 (kd b9) (kd_le b9 hb9) 12 (by decide); have q8 : (12 : Int32) = nI 12 := rfl; rw [q8] at c_3; rw [if_pos (q9.mp c_3)]; rfl), trivial⟩, hS.F ht⟩) hS.2.2 dX0_typeWidth_14
set_option maxHeartbeats 4000000 in
set_option maxRecDepth 100000 in
theorem c_X0_headLength (l : Launch) (dC : Nat → ClassId) (dI : Nat → Nat → Nat) (tk tw : Nat) (sz : Nat) (b9 : Nat) (hb9 : b9 < 256) : Met l yX0_headLength wsX0_headLength ({ frames := 2, cells := 0, slots := 0, locals := 40 }) (va_Pc [.int (nI b9)] (p0 sz tk tw)) (va_Qi (fun (r : Int32) (_ : Unit) => r = nI (hd b9)) (fun _ _ => True) (va_A [] sz)) 0 0 (va_A [] sz) := by
  refine Met.ofW (cc := cX0_headLength) (maxL := 1) (ret := (some .int)) (by decide) rfl ?_
  intro p e s m args below meth c s₁ Bd hml hv
  obtain ⟨rfl, hsz, hZ⟩ := hv
  have hx := Bd.exec
  have hb := Bd.bytes
  have hr := Bd.returns
  have hts := atoms_spec (ws := wsX0_headLength) Bd.pre
  have hown : s.vm.findClass RX0 = some m.cls := findClass_of_methodNamed Bd.named
  have hlocks := Bd.notSynchronized
  subst hsz
  generalize hAe : va_A [] s.heap.size = A at hZ ⊢
  have hA : ∀ q : Nat, s.heap.size ≤ q → A q := fun q h => by rw [← hAe]; exact Or.inr h
  have hS : va_S A s.heap s.heap [] := va_S.rf
  have hP : va_P (dC, dI) vwCl [] s.heap := fun k q h => by simp at h
  have hl := lv_entry ([.int (nI b9)]) (n := 1) (Nat.le_of_ble_eq_true rfl)
  rw [lg_entry_eq]
  generalize (lg_sl ([.int (nI b9)]) ++ List.replicate (1 - (lg_sl ([.int (nI b9)])).length) Slot.unset).toArray = ls at hl ⊢
  have hl : lv_has ls 1 [(0, .int (nI b9))] := hl
  refine lv_iconst (v := 1) hx hb dX0_headLength_0 (by decide) ?_
  refine lv_iload_n hx hb dX0_headLength_1 rfl (lv_at hl 0 rfl) ?_
  refine gsi (As := [.int (nI b9)]) (rest := [.int 1]) ⟨hx, hb, hml, hown, hts⟩ (c_X0_width l dC dI tk tw _ b9 hb9) (va_cwS 1 hts gX0_headLength_X0_width rfl rfl rfl (by decide +kernel) ⟨Nat.le_of_ble_eq_true rfl, Nat.le_of_ble_eq_true rfl⟩) hP hS hA hZ rfl hl.1 rfl (Nat.le_of_ble_eq_true rfl) dX0_headLength_2 ⟨Nat.le_of_ble_eq_true rfl, Nat.le_of_ble_eq_true rfl⟩ (fun r_2 H locs hw_1 hP hS => ?_)
  obtain rfl : r_2 = nI (wd b9) := hw_1
  refine lv_iadd hx hb dX0_headLength_5 ?_
  refine lv_iload_n hx hb dX0_headLength_6 rfl (lv_at hl 0 rfl) ?_
  refine gsi (As := [.int (nI b9)]) (rest := [.int (1 + (nI (wd b9)))]) ⟨hx, hb, hml, hown, hts⟩ (c_X0_typeWidth l dC dI tk tw _ b9 hb9) (va_cwS 1 hts gX0_headLength_X0_typeWidth rfl rfl rfl (by decide +kernel) ⟨Nat.le_of_ble_eq_true rfl, Nat.le_of_ble_eq_true rfl⟩) hP hS hA hZ rfl hl.1 rfl (Nat.le_of_ble_eq_true rfl) dX0_headLength_7 ⟨Nat.le_of_ble_eq_true rfl, Nat.le_of_ble_eq_true rfl⟩ (fun r_4 H locs hw_3 hP hS => ?_)
  obtain rfl : r_4 = nI (tW b9) := hw_3
  refine lv_iadd hx hb dX0_headLength_10 ?_
  exact W.iret (v := (1 + (nI (wd b9))) + (nI (tW b9))) hx hb hr (fun t ht hW => ⟨⟨(1 + (nI (wd b9))) + (nI (tW b9)), (), rfl, (by rw [show (1 : Int32) = nI 1 from rfl, nI_add, nI_add]; rfl), trivial⟩, hS.F ht⟩) hS.2.2 dX0_headLength_11
set_option maxHeartbeats 4000000 in
set_option maxRecDepth 100000 in
theorem c_X0_numberInside (l : Launch) (dC : Nat → ClassId) (dI : Nat → Nat → Nat) (tk tw : Nat) (sz : Nat) (b9 : Nat) (hb9 : b9 < 256) : Met l yX0_numberInside wsX0_numberInside ({ frames := 1, cells := 0, slots := 0, locals := 20 }) (va_Pc [.int (nI b9)] (p0 sz tk tw)) (va_Ql (fun (r : Int64) (_ : Unit) => r = sI b9) (fun _ _ => True) (va_A [] sz)) 0 0 (va_A [] sz) := by
  refine Met.ofW (cc := cX0_numberInside) (maxL := 1) (ret := (some .long)) (by decide) rfl ?_
  intro p e s m args below meth c s₁ Bd hml hv
  obtain ⟨rfl, hsz, hZ⟩ := hv
  have hx := Bd.exec
  have hb := Bd.bytes
  have hr := Bd.returns
  have hts := atoms_spec (ws := wsX0_numberInside) Bd.pre
  have hown : s.vm.findClass RX0 = some m.cls := findClass_of_methodNamed Bd.named
  have hlocks := Bd.notSynchronized
  subst hsz
  generalize hAe : va_A [] s.heap.size = A at hZ ⊢
  have hA : ∀ q : Nat, s.heap.size ≤ q → A q := fun q h => by rw [← hAe]; exact Or.inr h
  have hS : va_S A s.heap s.heap [] := va_S.rf
  have hP : va_P (dC, dI) vwCl [] s.heap := fun k q h => by simp at h
  have hl := lv_entry ([.int (nI b9)]) (n := 1) (Nat.le_of_ble_eq_true rfl)
  rw [lg_entry_eq]
  generalize (lg_sl ([.int (nI b9)]) ++ List.replicate (1 - (lg_sl ([.int (nI b9)])).length) Slot.unset).toArray = ls at hl ⊢
  have hl : lv_has ls 1 [(0, .int (nI b9))] := hl
  refine lv_iload_n hx hb dX0_numberInside_0 rfl (lv_at hl 0 rfl) ?_
  refine gsi (As := [.int (nI b9)]) (rest := []) ⟨hx, hb, hml, hown, hts⟩ (c_X0_kindOf l dC dI tk tw _ b9 hb9) (va_cwS 1 hts gX0_numberInside_X0_kindOf rfl rfl rfl (by decide +kernel) ⟨Nat.le_of_ble_eq_true rfl, Nat.le_of_ble_eq_true rfl⟩) hP hS hA hZ rfl hl.1 rfl (Nat.le_of_ble_eq_true rfl) dX0_numberInside_1 ⟨Nat.le_of_ble_eq_true rfl, Nat.le_of_ble_eq_true rfl⟩ (fun r_2 H locs hw_1 hP hS => ?_)
  obtain rfl : r_2 = nI (kd b9) := hw_1
  by_cases c_3 : (nI (kd b9)) = 4
  · skip
    refine lv_tableIn (tgt := 56) hx hb dX0_numberInside_4 (by rw [c_3]; decide) (by rw [c_3]; decide) (by rw [c_3] <;> rfl) (by decide) ?_
    refine lv_iload_n hx hb dX0_numberInside_56 rfl (lv_at hl 0 rfl) ?_
    refine lv_i2l hx hb dX0_numberInside_57 rfl ?_
    exact W.lret (v := (nI b9).toInt64) hx hb hr (fun t ht hW => ⟨⟨(nI b9).toInt64, (), rfl, (by have qc_3 :  kd b9 = 4 := (nI_e12 _ (kd_le b9 hb9) 4 (by decide)).mp c_3; simp [sI, qc_3]), trivial⟩, hS.F ht⟩) hS.2.2 dX0_numberInside_58
  by_cases c_4 : (nI (kd b9)) = 5
  · skip
    refine lv_tableIn (tgt := 59) hx hb dX0_numberInside_4 (by rw [c_4]; decide) (by rw [c_4]; decide) (by rw [c_4] <;> rfl) (by decide) ?_
    refine lv_iload_n hx hb dX0_numberInside_59 rfl (lv_at hl 0 rfl) ?_
    refine lv_sipush (v := 256) hx hb dX0_numberInside_60 (by decide) ?_
    refine lv_isub hx hb dX0_numberInside_63 ?_
    refine lv_i2l hx hb dX0_numberInside_64 rfl ?_
    exact W.lret (v := ((nI b9) - 256).toInt64) hx hb hr (fun t ht hW => ⟨⟨((nI b9) - 256).toInt64, (), rfl, (by have qc_3 : ¬ kd b9 = 4 := fun z => c_3 ((nI_e12 _ (kd_le b9 hb9) 4 (by decide)).mpr z); have qc_4 :  kd b9 = 5 := (nI_e12 _ (kd_le b9 hb9) 5 (by decide)).mp c_4; simp [sI, qc_3, qc_4]), trivial⟩, hS.F ht⟩) hS.2.2 dX0_numberInside_65
  by_cases c_5 : (nI (kd b9)) = 6
  · skip
    refine lv_tableIn (tgt := 95) hx hb dX0_numberInside_4 (by rw [c_5]; decide) (by rw [c_5]; decide) (by rw [c_5] <;> rfl) (by decide) ?_
    refine lv_lconst (v := 0) hx hb dX0_numberInside_95 (by decide) ?_
    exact W.lret (v := 0) hx hb hr (fun t ht hW => ⟨⟨0, (), rfl, (by have qc_3 : ¬ kd b9 = 4 := fun z => c_3 ((nI_e12 _ (kd_le b9 hb9) 4 (by decide)).mpr z); have qc_4 : ¬ kd b9 = 5 := fun z => c_4 ((nI_e12 _ (kd_le b9 hb9) 5 (by decide)).mpr z); have qc_5 :  kd b9 = 6 := (nI_e12 _ (kd_le b9 hb9) 6 (by decide)).mp c_5; simp [sI, qc_3, qc_4, qc_5]), trivial⟩, hS.F ht⟩) hS.2.2 dX0_numberInside_96
  by_cases c_6 : (nI (kd b9)) = 7
  · skip
    refine lv_tableIn (tgt := 95) hx hb dX0_numberInside_4 (by rw [c_6]; decide) (by rw [c_6]; decide) (by rw [c_6] <;> rfl) (by decide) ?_
    refine lv_lconst (v := 0) hx hb dX0_numberInside_95 (by decide) ?_
    exact W.lret (v := 0) hx hb hr (fun t ht hW => ⟨⟨0, (), rfl, (by have qc_3 : ¬ kd b9 = 4 := fun z => c_3 ((nI_e12 _ (kd_le b9 hb9) 4 (by decide)).mpr z); have qc_4 : ¬ kd b9 = 5 := fun z => c_4 ((nI_e12 _ (kd_le b9 hb9) 5 (by decide)).mpr z); have qc_5 : ¬ kd b9 = 6 := fun z => c_5 ((nI_e12 _ (kd_le b9 hb9) 6 (by decide)).mpr z); have qc_6 :  kd b9 = 7 := (nI_e12 _ (kd_le b9 hb9) 7 (by decide)).mp c_6; simp [sI, qc_3, qc_4, qc_5, qc_6]), trivial⟩, hS.F ht⟩) hS.2.2 dX0_numberInside_96
  by_cases c_7 : (nI (kd b9)) = 8
  · skip
    refine lv_tableIn (tgt := 80) hx hb dX0_numberInside_4 (by rw [c_7]; decide) (by rw [c_7]; decide) (by rw [c_7] <;> rfl) (by decide) ?_
    refine lv_iload_n hx hb dX0_numberInside_80 rfl (lv_at hl 0 rfl) ?_
    refine lv_sipush (v := 160) hx hb dX0_numberInside_81 (by decide) ?_
    refine lv_isub hx hb dX0_numberInside_84 ?_
    refine lv_i2l hx hb dX0_numberInside_85 rfl ?_
    exact W.lret (v := ((nI b9) - 160).toInt64) hx hb hr (fun t ht hW => ⟨⟨((nI b9) - 160).toInt64, (), rfl, (by have qc_3 : ¬ kd b9 = 4 := fun z => c_3 ((nI_e12 _ (kd_le b9 hb9) 4 (by decide)).mpr z); have qc_4 : ¬ kd b9 = 5 := fun z => c_4 ((nI_e12 _ (kd_le b9 hb9) 5 (by decide)).mpr z); have qc_5 : ¬ kd b9 = 6 := fun z => c_5 ((nI_e12 _ (kd_le b9 hb9) 6 (by decide)).mpr z); have qc_6 : ¬ kd b9 = 7 := fun z => c_6 ((nI_e12 _ (kd_le b9 hb9) 7 (by decide)).mpr z); have qc_7 :  kd b9 = 8 := (nI_e12 _ (kd_le b9 hb9) 8 (by decide)).mp c_7; simp [sI, qc_3, qc_4, qc_5, qc_6, qc_7]), trivial⟩, hS.F ht⟩) hS.2.2 dX0_numberInside_86
  by_cases c_8 : (nI (kd b9)) = 9
  · skip
    refine lv_tableIn (tgt := 95) hx hb dX0_numberInside_4 (by rw [c_8]; decide) (by rw [c_8]; decide) (by rw [c_8] <;> rfl) (by decide) ?_
    refine lv_lconst (v := 0) hx hb dX0_numberInside_95 (by decide) ?_
    exact W.lret (v := 0) hx hb hr (fun t ht hW => ⟨⟨0, (), rfl, (by have qc_3 : ¬ kd b9 = 4 := fun z => c_3 ((nI_e12 _ (kd_le b9 hb9) 4 (by decide)).mpr z); have qc_4 : ¬ kd b9 = 5 := fun z => c_4 ((nI_e12 _ (kd_le b9 hb9) 5 (by decide)).mpr z); have qc_5 : ¬ kd b9 = 6 := fun z => c_5 ((nI_e12 _ (kd_le b9 hb9) 6 (by decide)).mpr z); have qc_6 : ¬ kd b9 = 7 := fun z => c_6 ((nI_e12 _ (kd_le b9 hb9) 7 (by decide)).mpr z); have qc_7 : ¬ kd b9 = 8 := fun z => c_7 ((nI_e12 _ (kd_le b9 hb9) 8 (by decide)).mpr z); have qc_8 :  kd b9 = 9 := (nI_e12 _ (kd_le b9 hb9) 9 (by decide)).mp c_8; simp [sI, qc_3, qc_4, qc_5, qc_6, qc_7, qc_8]), trivial⟩, hS.F ht⟩) hS.2.2 dX0_numberInside_96
  by_cases c_9 : (nI (kd b9)) = 10
  · skip
    refine lv_tableIn (tgt := 73) hx hb dX0_numberInside_4 (by rw [c_9]; decide) (by rw [c_9]; decide) (by rw [c_9] <;> rfl) (by decide) ?_
    refine lv_iload_n hx hb dX0_numberInside_73 rfl (lv_at hl 0 rfl) ?_
    refine lv_sipush (v := 144) hx hb dX0_numberInside_74 (by decide) ?_
    refine lv_isub hx hb dX0_numberInside_77 ?_
    refine lv_i2l hx hb dX0_numberInside_78 rfl ?_
    exact W.lret (v := ((nI b9) - 144).toInt64) hx hb hr (fun t ht hW => ⟨⟨((nI b9) - 144).toInt64, (), rfl, (by have qc_3 : ¬ kd b9 = 4 := fun z => c_3 ((nI_e12 _ (kd_le b9 hb9) 4 (by decide)).mpr z); have qc_4 : ¬ kd b9 = 5 := fun z => c_4 ((nI_e12 _ (kd_le b9 hb9) 5 (by decide)).mpr z); have qc_5 : ¬ kd b9 = 6 := fun z => c_5 ((nI_e12 _ (kd_le b9 hb9) 6 (by decide)).mpr z); have qc_6 : ¬ kd b9 = 7 := fun z => c_6 ((nI_e12 _ (kd_le b9 hb9) 7 (by decide)).mpr z); have qc_7 : ¬ kd b9 = 8 := fun z => c_7 ((nI_e12 _ (kd_le b9 hb9) 8 (by decide)).mpr z); have qc_8 : ¬ kd b9 = 9 := fun z => c_8 ((nI_e12 _ (kd_le b9 hb9) 9 (by decide)).mpr z); have qc_9 :  kd b9 = 10 := (nI_e12 _ (kd_le b9 hb9) 10 (by decide)).mp c_9; simp [sI, qc_3, qc_4, qc_5, qc_6, qc_7, qc_8, qc_9]), trivial⟩, hS.F ht⟩) hS.2.2 dX0_numberInside_79
  by_cases c_10 : (nI (kd b9)) = 11
  · skip
    refine lv_tableIn (tgt := 66) hx hb dX0_numberInside_4 (by rw [c_10]; decide) (by rw [c_10]; decide) (by rw [c_10] <;> rfl) (by decide) ?_
    refine lv_iload_n hx hb dX0_numberInside_66 rfl (lv_at hl 0 rfl) ?_
    refine lv_sipush (v := 128) hx hb dX0_numberInside_67 (by decide) ?_
    refine lv_isub hx hb dX0_numberInside_70 ?_
    refine lv_i2l hx hb dX0_numberInside_71 rfl ?_
    exact W.lret (v := ((nI b9) - 128).toInt64) hx hb hr (fun t ht hW => ⟨⟨((nI b9) - 128).toInt64, (), rfl, (by have qc_3 : ¬ kd b9 = 4 := fun z => c_3 ((nI_e12 _ (kd_le b9 hb9) 4 (by decide)).mpr z); have qc_4 : ¬ kd b9 = 5 := fun z => c_4 ((nI_e12 _ (kd_le b9 hb9) 5 (by decide)).mpr z); have qc_5 : ¬ kd b9 = 6 := fun z => c_5 ((nI_e12 _ (kd_le b9 hb9) 6 (by decide)).mpr z); have qc_6 : ¬ kd b9 = 7 := fun z => c_6 ((nI_e12 _ (kd_le b9 hb9) 7 (by decide)).mpr z); have qc_7 : ¬ kd b9 = 8 := fun z => c_7 ((nI_e12 _ (kd_le b9 hb9) 8 (by decide)).mpr z); have qc_8 : ¬ kd b9 = 9 := fun z => c_8 ((nI_e12 _ (kd_le b9 hb9) 9 (by decide)).mpr z); have qc_9 : ¬ kd b9 = 10 := fun z => c_9 ((nI_e12 _ (kd_le b9 hb9) 10 (by decide)).mpr z); have qc_10 :  kd b9 = 11 := (nI_e12 _ (kd_le b9 hb9) 11 (by decide)).mp c_10; simp [sI, qc_3, qc_4, qc_5, qc_6, qc_7, qc_8, qc_9, qc_10]), trivial⟩, hS.F ht⟩) hS.2.2 dX0_numberInside_72
  by_cases c_11 : (nI (kd b9)) = 12
  · skip
    refine lv_tableIn (tgt := 87) hx hb dX0_numberInside_4 (by rw [c_11]; decide) (by rw [c_11]; decide) (by rw [c_11] <;> rfl) (by decide) ?_
    refine lv_lconst (v := 1) hx hb dX0_numberInside_87 (by decide) ?_
    refine lv_iload_n hx hb dX0_numberInside_88 rfl (lv_at hl 0 rfl) ?_
    refine lv_sipush (v := 212) hx hb dX0_numberInside_89 (by decide) ?_
    refine lv_isub hx hb dX0_numberInside_92 ?_
    refine lv_lshl hx hb dX0_numberInside_93 rfl ?_
    exact W.lret (v := 1 <<< (((nI b9) - 212).toInt64 &&& 63)) hx hb hr (fun t ht hW => ⟨⟨1 <<< (((nI b9) - 212).toInt64 &&& 63), (), rfl, (by have qc_3 : ¬ kd b9 = 4 := fun z => c_3 ((nI_e12 _ (kd_le b9 hb9) 4 (by decide)).mpr z); have qc_4 : ¬ kd b9 = 5 := fun z => c_4 ((nI_e12 _ (kd_le b9 hb9) 5 (by decide)).mpr z); have qc_5 : ¬ kd b9 = 6 := fun z => c_5 ((nI_e12 _ (kd_le b9 hb9) 6 (by decide)).mpr z); have qc_6 : ¬ kd b9 = 7 := fun z => c_6 ((nI_e12 _ (kd_le b9 hb9) 7 (by decide)).mpr z); have qc_7 : ¬ kd b9 = 8 := fun z => c_7 ((nI_e12 _ (kd_le b9 hb9) 8 (by decide)).mpr z); have qc_8 : ¬ kd b9 = 9 := fun z => c_8 ((nI_e12 _ (kd_le b9 hb9) 9 (by decide)).mpr z); have qc_9 : ¬ kd b9 = 10 := fun z => c_9 ((nI_e12 _ (kd_le b9 hb9) 10 (by decide)).mpr z); have qc_10 : ¬ kd b9 = 11 := fun z => c_10 ((nI_e12 _ (kd_le b9 hb9) 11 (by decide)).mpr z); have qc_11 :  kd b9 = 12 := (nI_e12 _ (kd_le b9 hb9) 12 (by decide)).mp c_11; simp [sI, qc_3, qc_4, qc_5, qc_6, qc_7, qc_8, qc_9, qc_10, qc_11]), trivial⟩, hS.F ht⟩) hS.2.2 dX0_numberInside_94
  refine lv_tableOut (tgt := 95) hx hb dX0_numberInside_4 (by have := lv_neT (a := 4) c_3 (by decide); have := lv_neT (a := 5) c_4 (by decide); have := lv_neT (a := 6) c_5 (by decide); have := lv_neT (a := 7) c_6 (by decide); have := lv_neT (a := 8) c_7 (by decide); have := lv_neT (a := 9) c_8 (by decide); have := lv_neT (a := 10) c_9 (by decide); have := lv_neT (a := 11) c_10 (by decide); have := lv_neT (a := 12) c_11 (by decide); omega) (by decide) ?_
  refine lv_lconst (v := 0) hx hb dX0_numberInside_95 (by decide) ?_
  exact W.lret (v := 0) hx hb hr (fun t ht hW => ⟨⟨0, (), rfl, (by have qc_3 : ¬ kd b9 = 4 := fun z => c_3 ((nI_e12 _ (kd_le b9 hb9) 4 (by decide)).mpr z); have qc_4 : ¬ kd b9 = 5 := fun z => c_4 ((nI_e12 _ (kd_le b9 hb9) 5 (by decide)).mpr z); have qc_5 : ¬ kd b9 = 6 := fun z => c_5 ((nI_e12 _ (kd_le b9 hb9) 6 (by decide)).mpr z); have qc_6 : ¬ kd b9 = 7 := fun z => c_6 ((nI_e12 _ (kd_le b9 hb9) 7 (by decide)).mpr z); have qc_7 : ¬ kd b9 = 8 := fun z => c_7 ((nI_e12 _ (kd_le b9 hb9) 8 (by decide)).mpr z); have qc_8 : ¬ kd b9 = 9 := fun z => c_8 ((nI_e12 _ (kd_le b9 hb9) 9 (by decide)).mpr z); have qc_9 : ¬ kd b9 = 10 := fun z => c_9 ((nI_e12 _ (kd_le b9 hb9) 10 (by decide)).mpr z); have qc_10 : ¬ kd b9 = 11 := fun z => c_10 ((nI_e12 _ (kd_le b9 hb9) 11 (by decide)).mpr z); have qc_11 : ¬ kd b9 = 12 := fun z => c_11 ((nI_e12 _ (kd_le b9 hb9) 12 (by decide)).mpr z); simp [sI, qc_3, qc_4, qc_5, qc_6, qc_7, qc_8, qc_9, qc_10, qc_11]), trivial⟩, hS.F ht⟩) hS.2.2 dX0_numberInside_96
set_option maxHeartbeats 4000000 in
set_option maxRecDepth 100000 in
theorem c_X0_withSign (l : Launch) (dC : Nat → ClassId) (dI : Nat → Nat → Nat) (tk tw : Nat) (sz : Nat) (x9 : Int64) (w9 : Nat) : Met l yX0_withSign wsX0_withSign ({ frames := 0, cells := 0, slots := 0, locals := 0 }) (va_Pc [.long x9, .int (nI w9)] (p0 sz tk tw)) (va_Ql (fun (r : Int64) (_ : Unit) => r = sg x9 w9) (fun _ _ => True) (va_A [] sz)) 0 0 (va_A [] sz) := by
  refine Met.ofW (cc := cX0_withSign) (maxL := 4) (ret := (some .long)) (by decide) rfl ?_
  intro p e s m args below meth c s₁ Bd hml hv
  obtain ⟨rfl, hsz, hZ⟩ := hv
  have hx := Bd.exec
  have hb := Bd.bytes
  have hr := Bd.returns
  have hts := atoms_spec (ws := wsX0_withSign) Bd.pre
  have hown : s.vm.findClass RX0 = some m.cls := findClass_of_methodNamed Bd.named
  have hlocks := Bd.notSynchronized
  subst hsz
  generalize hAe : va_A [] s.heap.size = A at hZ ⊢
  have hA : ∀ q : Nat, s.heap.size ≤ q → A q := fun q h => by rw [← hAe]; exact Or.inr h
  have hS : va_S A s.heap s.heap [] := va_S.rf
  have hP : va_P (dC, dI) vwCl [] s.heap := fun k q h => by simp at h
  have hl := lv_entry ([.long x9, .int (nI w9)]) (n := 4) (Nat.le_of_ble_eq_true rfl)
  rw [lg_entry_eq]
  generalize (lg_sl ([.long x9, .int (nI w9)]) ++ List.replicate (4 - (lg_sl ([.long x9, .int (nI w9)])).length) Slot.unset).toArray = ls at hl ⊢
  have hl : lv_has ls 4 [(0, .long x9), (2, .int (nI w9))] := hl
  refine lv_bipush (v := 64) hx hb dX0_withSign_0 (by decide) ?_
  refine lv_bipush (v := 8) hx hb dX0_withSign_2 (by decide) ?_
  refine lv_iload_n hx hb dX0_withSign_4 rfl (lv_at hl 1 rfl) ?_
  refine lv_imul hx hb dX0_withSign_5 ?_
  refine lv_isub hx hb dX0_withSign_6 ?_
  refine lv_istore_n (lv' := [(3, .int (64 - (8 * (nI w9)))), (0, .long x9), (2, .int (nI w9))]) hx hb dX0_withSign_7 rfl hl (by decide) rfl (fun ls hl => ?_)
  refine lv_lload_n hx hb dX0_withSign_8 rfl (lv_at hl 1 rfl) ?_
  refine lv_iload_n hx hb dX0_withSign_9 rfl (lv_at hl 0 rfl) ?_
  refine lv_lshl hx hb dX0_withSign_10 rfl ?_
  refine lv_iload_n hx hb dX0_withSign_11 rfl (lv_at hl 0 rfl) ?_
  refine lv_lshr hx hb dX0_withSign_12 rfl ?_
  exact W.lret (v := (x9 <<< ((64 - (8 * (nI w9))).toInt64 &&& 63)) >>> ((64 - (8 * (nI w9))).toInt64 &&& 63)) hx hb hr (fun t ht hW => ⟨⟨(x9 <<< ((64 - (8 * (nI w9))).toInt64 &&& 63)) >>> ((64 - (8 * (nI w9))).toInt64 &&& 63), (), rfl, rfl, trivial⟩, hS.F ht⟩) hS.2.2 dX0_withSign_13
set_option maxHeartbeats 4000000 in
set_option maxRecDepth 100000 in
theorem c_X0_hasPayload (l : Launch) (dC : Nat → ClassId) (dI : Nat → Nat → Nat) (tk tw : Nat) (sz : Nat) (k9 : Nat) (hk9 : k9 ≤ 12) : Met l yX0_hasPayload wsX0_hasPayload ({ frames := 0, cells := 0, slots := 0, locals := 0 }) (va_Pc [.int (nI k9)] (p0 sz tk tw)) (va_Qi (fun (r : Int32) (_ : Unit) => r = (if hp k9 = true then 1 else 0)) (fun _ _ => True) (va_A [] sz)) 0 0 (va_A [] sz) := by
  refine Met.ofW (cc := cX0_hasPayload) (maxL := 1) (ret := (some .boolean)) (by decide) rfl ?_
  intro p e s m args below meth c s₁ Bd hml hv
  obtain ⟨rfl, hsz, hZ⟩ := hv
  have hx := Bd.exec
  have hb := Bd.bytes
  have hr := Bd.returns
  have hts := atoms_spec (ws := wsX0_hasPayload) Bd.pre
  have hown : s.vm.findClass RX0 = some m.cls := findClass_of_methodNamed Bd.named
  have hlocks := Bd.notSynchronized
  subst hsz
  generalize hAe : va_A [] s.heap.size = A at hZ ⊢
  have hA : ∀ q : Nat, s.heap.size ≤ q → A q := fun q h => by rw [← hAe]; exact Or.inr h
  have hS : va_S A s.heap s.heap [] := va_S.rf
  have hP : va_P (dC, dI) vwCl [] s.heap := fun k q h => by simp at h
  have hl := lv_entry ([.int (nI k9)]) (n := 1) (Nat.le_of_ble_eq_true rfl)
  rw [lg_entry_eq]
  generalize (lg_sl ([.int (nI k9)]) ++ List.replicate (1 - (lg_sl ([.int (nI k9)])).length) Slot.unset).toArray = ls at hl ⊢
  have hl : lv_has ls 1 [(0, .int (nI k9))] := hl
  refine lv_iload_n hx hb dX0_hasPayload_0 rfl (lv_at hl 0 rfl) ?_
  refine lv_bipush (v := 8) hx hb dX0_hasPayload_1 (by decide) ?_
  refine lv_icmp_eq (tgt := 18) hx hb dX0_hasPayload_3 (by decide) (fun c_1 => ?_) (fun c_1 => ?_)
  · skip
    refine lv_iconst (v := 1) hx hb dX0_hasPayload_18 (by decide) ?_
    refine lv_goto (tgt := 23) hx hb dX0_hasPayload_19 (by decide) ?_
    exact W.zret (v := 1) hx hb hr (by decide) (fun t ht hW => ⟨⟨1, (), rfl, (by have qc_1 :  k9 = 8 := (nI_e12 k9 hk9 8 (by decide)).mp c_1; simp [hp, qc_1]), trivial⟩, hS.F ht⟩) hS.2.2 dX0_hasPayload_23
  · skip
    refine lv_iload_n hx hb dX0_hasPayload_6 rfl (lv_at hl 0 rfl) ?_
    refine lv_bipush (v := 9) hx hb dX0_hasPayload_7 (by decide) ?_
    refine lv_icmp_eq (tgt := 18) hx hb dX0_hasPayload_9 (by decide) (fun c_2 => ?_) (fun c_2 => ?_)
    · skip
      refine lv_iconst (v := 1) hx hb dX0_hasPayload_18 (by decide) ?_
      refine lv_goto (tgt := 23) hx hb dX0_hasPayload_19 (by decide) ?_
      exact W.zret (v := 1) hx hb hr (by decide) (fun t ht hW => ⟨⟨1, (), rfl, (by have qc_1 : ¬ k9 = 8 := fun z => c_1 ((nI_e12 k9 hk9 8 (by decide)).mpr z); have qc_2 :  k9 = 9 := (nI_e12 k9 hk9 9 (by decide)).mp c_2; simp [hp, qc_1, qc_2]), trivial⟩, hS.F ht⟩) hS.2.2 dX0_hasPayload_23
    · skip
      refine lv_iload_n hx hb dX0_hasPayload_12 rfl (lv_at hl 0 rfl) ?_
      refine lv_bipush (v := 12) hx hb dX0_hasPayload_13 (by decide) ?_
      refine lv_icmp_ne (tgt := 22) hx hb dX0_hasPayload_15 (by decide) (fun c_3 => ?_) (fun c_3 => ?_)
      · skip
        refine lv_iconst (v := 0) hx hb dX0_hasPayload_22 (by decide) ?_
        exact W.zret (v := 0) hx hb hr (by decide) (fun t ht hW => ⟨⟨0, (), rfl, (by have qc_1 : ¬ k9 = 8 := fun z => c_1 ((nI_e12 k9 hk9 8 (by decide)).mpr z); have qc_2 : ¬ k9 = 9 := fun z => c_2 ((nI_e12 k9 hk9 9 (by decide)).mpr z); have qc_3 : ¬ k9 = 12 := fun z => c_3 ((nI_e12 k9 hk9 12 (by decide)).mpr z); simp [hp, qc_1, qc_2, qc_3]), trivial⟩, hS.F ht⟩) hS.2.2 dX0_hasPayload_23
      · skip
        refine lv_iconst (v := 1) hx hb dX0_hasPayload_18 (by decide) ?_
        refine lv_goto (tgt := 23) hx hb dX0_hasPayload_19 (by decide) ?_
        exact W.zret (v := 1) hx hb hr (by decide) (fun t ht hW => ⟨⟨1, (), rfl, (by have qc_1 : ¬ k9 = 8 := fun z => c_1 ((nI_e12 k9 hk9 8 (by decide)).mpr z); have qc_2 : ¬ k9 = 9 := fun z => c_2 ((nI_e12 k9 hk9 9 (by decide)).mpr z); have qc_3 :  k9 = 12 := (nI_e12 k9 hk9 12 (by decide)).mp c_3; simp [hp, qc_1, qc_2, qc_3]), trivial⟩, hS.F ht⟩) hS.2.2 dX0_hasPayload_23
end
section
set_option maxHeartbeats 4000000 in
set_option maxRecDepth 100000 in
theorem c_X0_storedByte (l : Launch) (dC : Nat → ClassId) (dI : Nat → Nat → Nat) (tk tw : Nat) (h a b : Nat) (cB cJ : ClassId) (sz : Nat) (f : Nat → Int32) (g : Nat → Int64) (zs : Int32) (zc : Int32) (zg : Int32) (zo : Int32) (a9 : Nat) (h9 : a9 < 4096) : Met l yX0_storedByte wsX0_storedByte ({ frames := 0, cells := 0, slots := 0, locals := 0 }) (va_Pc [.ref h, .int (nI a9)] (pr dC dI (t0 cB cJ) (w0 h a b cB cJ f g zs zc zg zo) sz tk tw)) (va_Qi (fun (r : Int32) (_ : Unit) => r = nI (bY f a9)) (fun (_ : Unit) => po dC dI (t0 cB cJ) (va_A (w0 h a b cB cJ f g zs zc zg zo) sz) (w0 h a b cB cJ f g zs zc zg zo)) (va_A (w0 h a b cB cJ f g zs zc zg zo) sz)) 0 0 (va_A (w0 h a b cB cJ f g zs zc zg zo) sz) := by
  refine Met.ofW (cc := cX0_storedByte) (maxL := 2) (ret := (some .int)) (by decide) rfl ?_
  intro p e s m args below meth c s₁ Bd hml hv
  obtain ⟨rfl, hsz, hP, hK, hD0, hZ⟩ := hv
  have hx := Bd.exec
  have hb := Bd.bytes
  have hr := Bd.returns
  have hts := atoms_spec (ws := wsX0_storedByte) Bd.pre
  have hown : s.vm.findClass RX0 = some m.cls := findClass_of_methodNamed Bd.named
  have hlocks := Bd.notSynchronized
  subst hsz
  have hD := hD0.self (sz := s.heap.size)
  generalize hAe : va_A (w0 h a b cB cJ f g zs zc zg zo) s.heap.size = A at hD hZ ⊢
  have hA : ∀ q : Nat, s.heap.size ≤ q → A q := fun q h => by rw [← hAe]; exact Or.inr h
  have hS : va_S A s.heap s.heap [] := va_S.rf
  have hP : va_P (dC, dI) vwCl (w0 h a b cB cJ f g zs zc zg zo) s.heap := hP
  have hin0 : ∀ w ∈ wsX00, w ∈ wsX0_storedByte := by decide +kernel
  have fl9 := hts (.fieldLink RX0 9 "MessageReader" "store" "[B") (by decide +kernel)
  have hl := lv_entry ([.ref h, .int (nI a9)]) (n := 2) (Nat.le_of_ble_eq_true rfl)
  rw [lg_entry_eq]
  generalize (lg_sl ([.ref h, .int (nI a9)]) ++ List.replicate (2 - (lg_sl ([.ref h, .int (nI a9)])).length) Slot.unset).toArray = ls at hl ⊢
  have hl : lv_has ls 2 [(0, .ref h), (1, .int (nI a9))] := hl
  refine lv_aload_n hx hb dX0_storedByte_0 rfl (lv_at hl 0 rfl) ?_
  refine va_get (D := (dC, dI)) (ci := 0) (v := .ref a) (C := RX0) (T := TX0) (N := 6) hx hb hts hin0 hown hK hP 0 rfl rfl 0 (by decide) fl9 (fun _ h9 => h9) rfl dX0_storedByte_1 ?_
  refine lv_iload_n hx hb dX0_storedByte_4 rfl (lv_at hl 1 rfl) ?_
  refine va_bald hx hb hK hP 1 0 rfl rfl (vp_in_nI h9 (by decide)) dX0_storedByte_5 ?_
  refine lv_sipush (v := 255) hx hb dX0_storedByte_6 (by decide) ?_
  refine lv_iand hx hb dX0_storedByte_9 ?_
  exact W.iret (v := (f (nI a9).toNatClampNeg) &&& 255) hx hb hr (fun t ht hW => ⟨⟨(f (nI a9).toNatClampNeg) &&& 255, (), rfl, (by rw [nI_clamp (by omega)]; exact bY_and f a9), by rw [ht]; exact hP, va_K.moved hW.alike hK, hD⟩, hS.F ht⟩) hS.2.2 dX0_storedByte_10
set_option maxHeartbeats 4000000 in
set_option maxRecDepth 100000 in
theorem c_X0_kindAt (l : Launch) (dC : Nat → ClassId) (dI : Nat → Nat → Nat) (tk tw : Nat) (h a b : Nat) (cB cJ : ClassId) (sz : Nat) (f : Nat → Int32) (g : Nat → Int64) (zs : Int32) (zc : Int32) (zg : Int32) (zo : Int32) (a9 : Nat) (h9 : a9 < 4096) : Met l yX0_kindAt wsX0_kindAt ({ frames := 1, cells := 0, slots := 0, locals := 21 }) (va_Pc [.ref h, .int (nI a9)] (pr dC dI (t0 cB cJ) (w0 h a b cB cJ f g zs zc zg zo) sz tk tw)) (va_Qi (fun (r : Int32) (_ : Unit) => r = nI (kd (bY f a9))) (fun (_ : Unit) => po dC dI (t0 cB cJ) (va_A (w0 h a b cB cJ f g zs zc zg zo) sz) (w0 h a b cB cJ f g zs zc zg zo)) (va_A (w0 h a b cB cJ f g zs zc zg zo) sz)) 0 0 (va_A (w0 h a b cB cJ f g zs zc zg zo) sz) := by
  refine Met.ofW (cc := cX0_kindAt) (maxL := 2) (ret := (some .int)) (by decide) rfl ?_
  intro p e s m args below meth c s₁ Bd hml hv
  obtain ⟨rfl, hsz, hP, hK, hD0, hZ⟩ := hv
  have hx := Bd.exec
  have hb := Bd.bytes
  have hr := Bd.returns
  have hts := atoms_spec (ws := wsX0_kindAt) Bd.pre
  have hown : s.vm.findClass RX0 = some m.cls := findClass_of_methodNamed Bd.named
  have hlocks := Bd.notSynchronized
  subst hsz
  have hD := hD0.self (sz := s.heap.size)
  generalize hAe : va_A (w0 h a b cB cJ f g zs zc zg zo) s.heap.size = A at hD hZ ⊢
  have hA : ∀ q : Nat, s.heap.size ≤ q → A q := fun q h => by rw [← hAe]; exact Or.inr h
  have hS : va_S A s.heap s.heap [] := va_S.rf
  have hP : va_P (dC, dI) vwCl (w0 h a b cB cJ f g zs zc zg zo) s.heap := hP
  have hl := lv_entry ([.ref h, .int (nI a9)]) (n := 2) (Nat.le_of_ble_eq_true rfl)
  rw [lg_entry_eq]
  generalize (lg_sl ([.ref h, .int (nI a9)]) ++ List.replicate (2 - (lg_sl ([.ref h, .int (nI a9)])).length) Slot.unset).toArray = ls at hl ⊢
  have hl : lv_has ls 2 [(0, .ref h), (1, .int (nI a9))] := hl
  refine lv_aload_n hx hb dX0_kindAt_0 rfl (lv_at hl 0 rfl) ?_
  refine lv_iload_n hx hb dX0_kindAt_1 rfl (lv_at hl 1 rfl) ?_
  refine gvi (As := [.int (nI a9)]) (rest := []) ⟨hx, hb, hml, hown, hts⟩ (c_X0_storedByte l dC dI tk tw h a b cB cJ _ f g zs zc zg zo a9 h9) (cwV 1 hts gX0_kindAt_X0_storedByte rfl rfl rfl (by decide +kernel) ⟨Nat.le_of_ble_eq_true rfl, Nat.le_of_ble_eq_true rfl⟩) hK hP hD hS hA hZ (q0 := 0) (ci := 0) rfl rfl rfl rfl hl.1 rfl (Nat.le_of_ble_eq_true rfl) dX0_kindAt_2 ⟨Nat.le_of_ble_eq_true rfl, Nat.le_of_ble_eq_true rfl⟩ (fun r_2 u_3 H locs hw_1 hP hD hS => ?_)
  obtain rfl : r_2 = nI (bY f a9) := hw_1
  refine gsi (As := [.int (nI (bY f a9))]) (rest := []) ⟨hx, hb, hml, hown, hts⟩ (c_X0_kindOf l dC dI tk tw _ (bY f a9) (bY_lt f a9)) (va_cwS 1 hts gX0_kindAt_X0_kindOf rfl rfl rfl (by decide +kernel) ⟨Nat.le_of_ble_eq_true rfl, Nat.le_of_ble_eq_true rfl⟩) hP hS hA hZ rfl hl.1 rfl (Nat.le_of_ble_eq_true rfl) dX0_kindAt_5 ⟨Nat.le_of_ble_eq_true rfl, Nat.le_of_ble_eq_true rfl⟩ (fun r_5 H locs hw_4 hP hS => ?_)
  obtain rfl : r_5 = nI (kd (bY f a9)) := hw_4
  exact W.iret (v := nI (kd (bY f a9))) hx hb hr (fun t ht hW => ⟨⟨nI (kd (bY f a9)), (), rfl, rfl, by rw [ht]; exact hP, va_K.moved hW.alike hK, hD⟩, hS.F ht⟩) hS.2.2 dX0_kindAt_8
set_option maxHeartbeats 4000000 in
set_option maxRecDepth 100000 in
theorem c_X0_headLengthAt (l : Launch) (dC : Nat → ClassId) (dI : Nat → Nat → Nat) (tk tw : Nat) (h a b : Nat) (cB cJ : ClassId) (sz : Nat) (f : Nat → Int32) (g : Nat → Int64) (zs : Int32) (zc : Int32) (zg : Int32) (zo : Int32) (a9 : Nat) (h9 : a9 < 4096) : Met l yX0_headLengthAt wsX0_headLengthAt ({ frames := 3, cells := 0, slots := 0, locals := 60 }) (va_Pc [.ref h, .int (nI a9)] (pr dC dI (t0 cB cJ) (w0 h a b cB cJ f g zs zc zg zo) sz tk tw)) (va_Qi (fun (r : Int32) (_ : Unit) => r = nI (hd (bY f a9))) (fun (_ : Unit) => po dC dI (t0 cB cJ) (va_A (w0 h a b cB cJ f g zs zc zg zo) sz) (w0 h a b cB cJ f g zs zc zg zo)) (va_A (w0 h a b cB cJ f g zs zc zg zo) sz)) 0 0 (va_A (w0 h a b cB cJ f g zs zc zg zo) sz) := by
  refine Met.ofW (cc := cX0_headLengthAt) (maxL := 2) (ret := (some .int)) (by decide) rfl ?_
  intro p e s m args below meth c s₁ Bd hml hv
  obtain ⟨rfl, hsz, hP, hK, hD0, hZ⟩ := hv
  have hx := Bd.exec
  have hb := Bd.bytes
  have hr := Bd.returns
  have hts := atoms_spec (ws := wsX0_headLengthAt) Bd.pre
  have hown : s.vm.findClass RX0 = some m.cls := findClass_of_methodNamed Bd.named
  have hlocks := Bd.notSynchronized
  subst hsz
  have hD := hD0.self (sz := s.heap.size)
  generalize hAe : va_A (w0 h a b cB cJ f g zs zc zg zo) s.heap.size = A at hD hZ ⊢
  have hA : ∀ q : Nat, s.heap.size ≤ q → A q := fun q h => by rw [← hAe]; exact Or.inr h
  have hS : va_S A s.heap s.heap [] := va_S.rf
  have hP : va_P (dC, dI) vwCl (w0 h a b cB cJ f g zs zc zg zo) s.heap := hP
  have hl := lv_entry ([.ref h, .int (nI a9)]) (n := 2) (Nat.le_of_ble_eq_true rfl)
  rw [lg_entry_eq]
  generalize (lg_sl ([.ref h, .int (nI a9)]) ++ List.replicate (2 - (lg_sl ([.ref h, .int (nI a9)])).length) Slot.unset).toArray = ls at hl ⊢
  have hl : lv_has ls 2 [(0, .ref h), (1, .int (nI a9))] := hl
  refine lv_aload_n hx hb dX0_headLengthAt_0 rfl (lv_at hl 0 rfl) ?_
  refine lv_iload_n hx hb dX0_headLengthAt_1 rfl (lv_at hl 1 rfl) ?_
  refine gvi (As := [.int (nI a9)]) (rest := []) ⟨hx, hb, hml, hown, hts⟩ (c_X0_storedByte l dC dI tk tw h a b cB cJ _ f g zs zc zg zo a9 h9) (cwV 1 hts gX0_headLengthAt_X0_storedByte rfl rfl rfl (by decide +kernel) ⟨Nat.le_of_ble_eq_true rfl, Nat.le_of_ble_eq_true rfl⟩) hK hP hD hS hA hZ (q0 := 0) (ci := 0) rfl rfl rfl rfl hl.1 rfl (Nat.le_of_ble_eq_true rfl) dX0_headLengthAt_2 ⟨Nat.le_of_ble_eq_true rfl, Nat.le_of_ble_eq_true rfl⟩ (fun r_2 u_3 H locs hw_1 hP hD hS => ?_)
  obtain rfl : r_2 = nI (bY f a9) := hw_1
  refine gsi (As := [.int (nI (bY f a9))]) (rest := []) ⟨hx, hb, hml, hown, hts⟩ (c_X0_headLength l dC dI tk tw _ (bY f a9) (bY_lt f a9)) (va_cwS 1 hts gX0_headLengthAt_X0_headLength rfl rfl rfl (by decide +kernel) ⟨Nat.le_of_ble_eq_true rfl, Nat.le_of_ble_eq_true rfl⟩) hP hS hA hZ rfl hl.1 rfl (Nat.le_of_ble_eq_true rfl) dX0_headLengthAt_5 ⟨Nat.le_of_ble_eq_true rfl, Nat.le_of_ble_eq_true rfl⟩ (fun r_5 H locs hw_4 hP hS => ?_)
  obtain rfl : r_5 = nI (hd (bY f a9)) := hw_4
  exact W.iret (v := nI (hd (bY f a9))) hx hb hr (fun t ht hW => ⟨⟨nI (hd (bY f a9)), (), rfl, rfl, by rw [ht]; exact hP, va_K.moved hW.alike hK, hD⟩, hS.F ht⟩) hS.2.2 dX0_headLengthAt_8
set_option maxHeartbeats 4000000 in
set_option maxRecDepth 100000 in
theorem c_X0_readNumber (l : Launch) (dC : Nat → ClassId) (dI : Nat → Nat → Nat) (tk tw : Nat) (h a b : Nat) (cB cJ : ClassId) (sz : Nat) (f : Nat → Int32) (g : Nat → Int64) (zs : Int32) (zc : Int32) (zg : Int32) (zo : Int32) (a9 k9 : Nat) (h9 : a9 + k9 ≤ 4096) : Met l yX0_readNumber wsX0_readNumber ({ frames := 1, cells := 0, slots := 0, locals := 21 }) (va_Pc [.ref h, .int (nI a9), .int (nI k9)] (pr dC dI (t0 cB cJ) (w0 h a b cB cJ f g zs zc zg zo) sz tk tw)) (va_Ql (fun (r : Int64) (_ : Unit) => r = rd (bY f) a9 k9) (fun (_ : Unit) => po dC dI (t0 cB cJ) (va_A (w0 h a b cB cJ f g zs zc zg zo) sz) (w0 h a b cB cJ f g zs zc zg zo)) (va_A (w0 h a b cB cJ f g zs zc zg zo) sz)) 0 0 (va_A (w0 h a b cB cJ f g zs zc zg zo) sz) := by
  refine Met.ofW (cc := cX0_readNumber) (maxL := 6) (ret := (some .long)) (by decide) rfl ?_
  intro p e s m args below meth c s₁ Bd hml hv
  obtain ⟨rfl, hsz, hP, hK, hD0, hZ⟩ := hv
  have hx := Bd.exec
  have hb := Bd.bytes
  have hr := Bd.returns
  have hts := atoms_spec (ws := wsX0_readNumber) Bd.pre
  have hown : s.vm.findClass RX0 = some m.cls := findClass_of_methodNamed Bd.named
  have hlocks := Bd.notSynchronized
  subst hsz
  have hD := hD0.self (sz := s.heap.size)
  generalize hAe : va_A (w0 h a b cB cJ f g zs zc zg zo) s.heap.size = A at hD hZ ⊢
  have hA : ∀ q : Nat, s.heap.size ≤ q → A q := fun q h => by rw [← hAe]; exact Or.inr h
  have hS : va_S A s.heap s.heap [] := va_S.rf
  have hP : va_P (dC, dI) vwCl (w0 h a b cB cJ f g zs zc zg zo) s.heap := hP
  have hl := lv_entry ([.ref h, .int (nI a9), .int (nI k9)]) (n := 6) (Nat.le_of_ble_eq_true rfl)
  rw [lg_entry_eq]
  generalize (lg_sl ([.ref h, .int (nI a9), .int (nI k9)]) ++ List.replicate (6 - (lg_sl ([.ref h, .int (nI a9), .int (nI k9)])).length) Slot.unset).toArray = ls at hl ⊢
  have hl : lv_has ls 6 [(0, .ref h), (1, .int (nI a9)), (2, .int (nI k9))] := hl
  refine lv_lconst (v := 0) hx hb dX0_readNumber_0 (by decide) ?_
  refine lv_lstore_n (lv' := [(3, .long 0), (0, .ref h), (1, .int (nI a9)), (2, .int (nI k9))]) hx hb dX0_readNumber_1 rfl hl (by decide) rfl (fun ls hl => ?_)
  refine lv_iconst (v := 0) hx hb dX0_readNumber_2 (by decide) ?_
  refine lv_istore (lv' := [(5, .int 0), (3, .long 0), (0, .ref h), (1, .int (nI a9)), (2, .int (nI k9))]) hx hb dX0_readNumber_3 hl (by decide) rfl (fun ls hl => ?_)
  have loop5 : ∀ (fz : Nat) (i : Nat), i ≤ k9 → k9 - i < fz → ∀ (H : Heap) (locs : List Loc), va_P (dC, dI) vwCl (w0 h a b cB cJ f g zs zc zg zo) H → va_D A (w0 h a b cB cJ f g zs zc zg zo) → va_S A s.heap H locs → ∀ ls : Array Slot, lv_has ls 6 [(0, .ref h), (1, .int (nI a9)), (2, .int (nI k9)), (3, .long (rd (bY f) a9 i)), (5, .int (nI i))] → W p l e (headSpec wsX0_readNumber ({ frames := 1, cells := 0, slots := 0, locals := 21 })).room s m ([.ref h, .int (nI a9), .int (nI k9)]).toArray below meth c H locs 0 0 (MQ below (va_Ql (fun (r : Int64) (_ : Unit) => r = rd (bY f) a9 k9) (fun (_ : Unit) => po dC dI (t0 cB cJ) A (w0 h a b cB cJ f g zs zc zg zo)) A) ([.ref h, .int (nI a9), .int (nI k9)]).toArray s 0 0 A) (F0 m 5 ls []) := by
    intro fz
    induction fz with
    | zero =>
      intro i hi hn H locs hP hD hS ls hl
      exact absurd hn (Nat.not_lt_zero _)
    | succ fz ih =>
      intro i hi hn H locs hP hD hS ls hl
      refine lv_iload hx hb dX0_readNumber_5 (lv_at hl 4 rfl) ?_
      refine lv_iload_n hx hb dX0_readNumber_7 rfl (lv_at hl 2 rfl) ?_
      refine lv_icmp_ge (tgt := 32) hx hb dX0_readNumber_8 (by decide) (fun c_1 => ?_) (fun c_1 => ?_)
      · skip
        refine lv_lload_n hx hb dX0_readNumber_32 rfl (lv_at hl 3 rfl) ?_
        exact W.lret (v := rd (bY f) a9 i) hx hb hr (fun t ht hW => ⟨⟨rd (bY f) a9 i, (), rfl, (by have q := (nI_leI (a := k9) (b := i) (by omega) (by omega)).mp c_1; have q2 : i = k9 := (by omega); rw [q2]), by rw [ht]; exact hP, va_K.moved hW.alike hK, hD⟩, hS.F ht⟩) hS.2.2 dX0_readNumber_33
      · skip
        have hik : i < k9 := by have q := (not_congr (nI_leI (a := k9) (b := i) (by omega) (by omega))).mp c_1; omega
        refine lv_lload_n hx hb dX0_readNumber_11 rfl (lv_at hl 3 rfl) ?_
        refine lv_bipush (v := 8) hx hb dX0_readNumber_12 (by decide) ?_
        refine lv_lshl hx hb dX0_readNumber_14 rfl ?_
        refine lv_aload_n hx hb dX0_readNumber_15 rfl (lv_at hl 0 rfl) ?_
        refine lv_iload_n hx hb dX0_readNumber_16 rfl (lv_at hl 1 rfl) ?_
        refine lv_iload hx hb dX0_readNumber_17 (lv_at hl 4 rfl) ?_
        refine lv_iadd hx hb dX0_readNumber_19 ?_
        have e_4 : ((nI a9) + (nI i) : Int32) = nI (a9 + i) := nI_add a9 i
        rw [e_4]
        refine gvi (As := [.int (nI (a9 + i))]) (rest := [.long ((rd (bY f) a9 i) <<< ((8 : Int32).toInt64 &&& 63))]) ⟨hx, hb, hml, hown, hts⟩ (c_X0_storedByte l dC dI tk tw h a b cB cJ _ f g zs zc zg zo (a9 + i) (by omega)) (cwV 1 hts gX0_readNumber_X0_storedByte rfl rfl rfl (by decide +kernel) ⟨Nat.le_of_ble_eq_true rfl, Nat.le_of_ble_eq_true rfl⟩) hK hP hD hS hA hZ (q0 := 0) (ci := 0) rfl rfl rfl rfl hl.1 rfl (Nat.le_of_ble_eq_true rfl) dX0_readNumber_20 ⟨Nat.le_of_ble_eq_true rfl, Nat.le_of_ble_eq_true rfl⟩ (fun r_3 u_5 H locs hw_2 hP hD hS => ?_)
        obtain rfl : r_3 = nI (bY f (a9 + i)) := hw_2
        refine lv_i2l hx hb dX0_readNumber_23 rfl ?_
        refine lv_lor hx hb dX0_readNumber_24 ?_
        refine lv_lstore_n (lv' := [(3, .long (((rd (bY f) a9 i) <<< ((8 : Int32).toInt64 &&& 63)) ||| ((nI (bY f (a9 + i))).toInt64))), (0, .ref h), (1, .int (nI a9)), (2, .int (nI k9)), (5, .int (nI i))]) hx hb dX0_readNumber_25 rfl hl (by decide) rfl (fun ls hl => ?_)
        refine lv_iinc (v := nI (i + 1)) (lv' := [(5, .int (nI (i + 1))), (3, .long (((rd (bY f) a9 i) <<< ((8 : Int32).toInt64 &&& 63)) ||| ((nI (bY f (a9 + i))).toInt64))), (0, .ref h), (1, .int (nI a9)), (2, .int (nI k9))]) hx hb dX0_readNumber_26 hl (k := 4) rfl (nI_1 i) (by decide) rfl (fun ls hl => ?_)
        refine lv_goto (tgt := 5) hx hb dX0_readNumber_29 (by decide) ?_
        exact ih (i + 1) (by omega) (by omega) _ _ hP hD hS ls (lv_sub hl [2, 3, 4, 1, 0] rfl)
  exact loop5 (k9 + 1) 0 (Nat.zero_le _) (by omega) _ _ hP hD hS ls (lv_sub hl [2, 3, 4, 1, 0] rfl)
set_option maxHeartbeats 4000000 in
set_option maxRecDepth 100000 in
theorem c_X0_numberAt (l : Launch) (dC : Nat → ClassId) (dI : Nat → Nat → Nat) (tk tw : Nat) (h a b : Nat) (cB cJ : ClassId) (sz : Nat) (f : Nat → Int32) (g : Nat → Int64) (zs : Int32) (zc : Int32) (zg : Int32) (zo : Int32) (a9 : Nat) (h9 : a9 + 1 + wd (bY f a9) ≤ 4096) : Met l yX0_numberAt wsX0_numberAt ({ frames := 2, cells := 0, slots := 0, locals := 46 }) (va_Pc [.ref h, .int (nI a9)] (pr dC dI (t0 cB cJ) (w0 h a b cB cJ f g zs zc zg zo) sz tk tw)) (va_Ql (fun (r : Int64) (_ : Unit) => r = nv (bY f) a9) (fun (_ : Unit) => po dC dI (t0 cB cJ) (va_A (w0 h a b cB cJ f g zs zc zg zo) sz) (w0 h a b cB cJ f g zs zc zg zo)) (va_A (w0 h a b cB cJ f g zs zc zg zo) sz)) 0 0 (va_A (w0 h a b cB cJ f g zs zc zg zo) sz) := by
  refine Met.ofW (cc := cX0_numberAt) (maxL := 6) (ret := (some .long)) (by decide) rfl ?_
  intro p e s m args below meth c s₁ Bd hml hv
  obtain ⟨rfl, hsz, hP, hK, hD0, hZ⟩ := hv
  have hx := Bd.exec
  have hb := Bd.bytes
  have hr := Bd.returns
  have hts := atoms_spec (ws := wsX0_numberAt) Bd.pre
  have hown : s.vm.findClass RX0 = some m.cls := findClass_of_methodNamed Bd.named
  have hlocks := Bd.notSynchronized
  subst hsz
  have hD := hD0.self (sz := s.heap.size)
  generalize hAe : va_A (w0 h a b cB cJ f g zs zc zg zo) s.heap.size = A at hD hZ ⊢
  have hA : ∀ q : Nat, s.heap.size ≤ q → A q := fun q h => by rw [← hAe]; exact Or.inr h
  have hS : va_S A s.heap s.heap [] := va_S.rf
  have hP : va_P (dC, dI) vwCl (w0 h a b cB cJ f g zs zc zg zo) s.heap := hP
  have hl := lv_entry ([.ref h, .int (nI a9)]) (n := 6) (Nat.le_of_ble_eq_true rfl)
  rw [lg_entry_eq]
  generalize (lg_sl ([.ref h, .int (nI a9)]) ++ List.replicate (6 - (lg_sl ([.ref h, .int (nI a9)])).length) Slot.unset).toArray = ls at hl ⊢
  have hl : lv_has ls 6 [(0, .ref h), (1, .int (nI a9))] := hl
  refine lv_aload_n hx hb dX0_numberAt_0 rfl (lv_at hl 0 rfl) ?_
  refine lv_iload_n hx hb dX0_numberAt_1 rfl (lv_at hl 1 rfl) ?_
  refine gvi (As := [.int (nI a9)]) (rest := []) ⟨hx, hb, hml, hown, hts⟩ (c_X0_storedByte l dC dI tk tw h a b cB cJ _ f g zs zc zg zo a9 (by omega)) (cwV 1 hts gX0_numberAt_X0_storedByte rfl rfl rfl (by decide +kernel) ⟨Nat.le_of_ble_eq_true rfl, Nat.le_of_ble_eq_true rfl⟩) hK hP hD hS hA hZ (q0 := 0) (ci := 0) rfl rfl rfl rfl hl.1 rfl (Nat.le_of_ble_eq_true rfl) dX0_numberAt_2 ⟨Nat.le_of_ble_eq_true rfl, Nat.le_of_ble_eq_true rfl⟩ (fun r_2 u_3 H locs hw_1 hP hD hS => ?_)
  obtain rfl : r_2 = nI (bY f a9) := hw_1
  refine lv_istore_n (lv' := [(2, .int (nI (bY f a9))), (0, .ref h), (1, .int (nI a9))]) hx hb dX0_numberAt_5 rfl hl (by decide) rfl (fun ls hl => ?_)
  refine lv_iload_n hx hb dX0_numberAt_6 rfl (lv_at hl 0 rfl) ?_
  refine gsi (As := [.int (nI (bY f a9))]) (rest := []) ⟨hx, hb, hml, hown, hts⟩ (c_X0_width l dC dI tk tw _ (bY f a9) (bY_lt f a9)) (va_cwS 1 hts gX0_numberAt_X0_width rfl rfl rfl (by decide +kernel) ⟨Nat.le_of_ble_eq_true rfl, Nat.le_of_ble_eq_true rfl⟩) hP hS hA hZ rfl hl.1 rfl (Nat.le_of_ble_eq_true rfl) dX0_numberAt_7 ⟨Nat.le_of_ble_eq_true rfl, Nat.le_of_ble_eq_true rfl⟩ (fun r_5 H locs hw_4 hP hS => ?_)
  obtain rfl : r_5 = nI (wd (bY f a9)) := hw_4
  refine lv_istore_n (lv' := [(3, .int (nI (wd (bY f a9)))), (2, .int (nI (bY f a9))), (0, .ref h), (1, .int (nI a9))]) hx hb dX0_numberAt_10 rfl hl (by decide) rfl (fun ls hl => ?_)
  refine lv_iload_n hx hb dX0_numberAt_11 rfl (lv_at hl 0 rfl) ?_
  refine lv_if_ne (tgt := 20) hx hb dX0_numberAt_12 (by decide) (fun c_6 => ?_) (fun c_6 => ?_)
  · skip
    refine lv_aload_n hx hb dX0_numberAt_20 rfl (lv_at hl 2 rfl) ?_
    refine lv_iload_n hx hb dX0_numberAt_21 rfl (lv_at hl 3 rfl) ?_
    refine lv_iconst (v := 1) hx hb dX0_numberAt_22 (by decide) ?_
    refine lv_iadd hx hb dX0_numberAt_23 ?_
    refine lv_iload_n hx hb dX0_numberAt_24 rfl (lv_at hl 0 rfl) ?_
    have e_9 : ((nI a9) + 1 : Int32) = nI (a9 + 1) := nI_1 a9
    rw [e_9]
    refine gvl (As := [.int (nI (a9 + 1)), .int (nI (wd (bY f a9)))]) (rest := []) ⟨hx, hb, hml, hown, hts⟩ (c_X0_readNumber l dC dI tk tw h a b cB cJ _ f g zs zc zg zo (a9 + 1) (wd (bY f a9)) (by omega)) (cwV 2 hts gX0_numberAt_X0_readNumber rfl rfl rfl (by decide +kernel) ⟨Nat.le_of_ble_eq_true rfl, Nat.le_of_ble_eq_true rfl⟩) hK hP hD hS hA hZ (q0 := 0) (ci := 0) rfl rfl rfl rfl hl.1 rfl (Nat.le_of_ble_eq_true rfl) dX0_numberAt_25 ⟨Nat.le_of_ble_eq_true rfl, Nat.le_of_ble_eq_true rfl⟩ (fun r_8 u_10 H locs hw_7 hP hD hS => ?_)
    obtain rfl : r_8 = rd (bY f) (a9 + 1) (wd (bY f a9)) := hw_7
    refine lv_lstore (lv' := [(4, .long (rd (bY f) (a9 + 1) (wd (bY f a9)))), (3, .int (nI (wd (bY f a9)))), (2, .int (nI (bY f a9))), (0, .ref h), (1, .int (nI a9))]) hx hb dX0_numberAt_28 hl (by decide) rfl (fun ls hl => ?_)
    refine lv_iload_n hx hb dX0_numberAt_30 rfl (lv_at hl 2 rfl) ?_
    refine gsi (As := [.int (nI (bY f a9))]) (rest := []) ⟨hx, hb, hml, hown, hts⟩ (c_X0_kindOf l dC dI tk tw _ (bY f a9) (bY_lt f a9)) (va_cwS 1 hts gX0_numberAt_X0_kindOf rfl rfl rfl (by decide +kernel) ⟨Nat.le_of_ble_eq_true rfl, Nat.le_of_ble_eq_true rfl⟩) hP hS hA hZ rfl hl.1 rfl (Nat.le_of_ble_eq_true rfl) dX0_numberAt_31 ⟨Nat.le_of_ble_eq_true rfl, Nat.le_of_ble_eq_true rfl⟩ (fun r_12 H locs hw_11 hP hS => ?_)
    obtain rfl : r_12 = nI (kd (bY f a9)) := hw_11
    refine lv_iconst (v := 5) hx hb dX0_numberAt_34 (by decide) ?_
    refine lv_icmp_ne (tgt := 47) hx hb dX0_numberAt_35 (by decide) (fun c_13 => ?_) (fun c_13 => ?_)
    · skip
      refine lv_lload hx hb dX0_numberAt_47 (lv_at hl 0 rfl) ?_
      exact W.lret (v := rd (bY f) (a9 + 1) (wd (bY f a9))) hx hb hr (fun t ht hW => ⟨⟨rd (bY f) (a9 + 1) (wd (bY f a9)), (), rfl, (by have q9 := nI_z (k := wd (bY f a9)) (by have := wd_le _ (bY_lt f a9); omega); have q8 := nI_e12 (kd (bY f a9)) (kd_le _ (bY_lt f a9)) 5 (by decide); unfold nv; rw [if_neg (fun z => c_6 (q9.mpr z))]; rw [if_neg (fun z => c_13 (q8.mpr z))]), by rw [ht]; exact hP, va_K.moved hW.alike hK, hD⟩, hS.F ht⟩) hS.2.2 dX0_numberAt_49
    · skip
      refine lv_lload hx hb dX0_numberAt_38 (lv_at hl 0 rfl) ?_
      refine lv_iload_n hx hb dX0_numberAt_40 rfl (lv_at hl 1 rfl) ?_
      refine gsl (As := [.long (rd (bY f) (a9 + 1) (wd (bY f a9))), .int (nI (wd (bY f a9)))]) (rest := []) ⟨hx, hb, hml, hown, hts⟩ (c_X0_withSign l dC dI tk tw _ (rd (bY f) (a9 + 1) (wd (bY f a9))) (wd (bY f a9))) (va_cwS 2 hts gX0_numberAt_X0_withSign rfl rfl rfl (by decide +kernel) ⟨Nat.le_of_ble_eq_true rfl, Nat.le_of_ble_eq_true rfl⟩) hP hS hA hZ rfl hl.1 rfl (Nat.le_of_ble_eq_true rfl) dX0_numberAt_41 ⟨Nat.le_of_ble_eq_true rfl, Nat.le_of_ble_eq_true rfl⟩ (fun r_15 H locs hw_14 hP hS => ?_)
      obtain rfl : r_15 = sg (rd (bY f) (a9 + 1) (wd (bY f a9))) (wd (bY f a9)) := hw_14
      refine lv_goto (tgt := 49) hx hb dX0_numberAt_44 (by decide) ?_
      exact W.lret (v := sg (rd (bY f) (a9 + 1) (wd (bY f a9))) (wd (bY f a9))) hx hb hr (fun t ht hW => ⟨⟨sg (rd (bY f) (a9 + 1) (wd (bY f a9))) (wd (bY f a9)), (), rfl, (by have q9 := nI_z (k := wd (bY f a9)) (by have := wd_le _ (bY_lt f a9); omega); have q8 := nI_e12 (kd (bY f a9)) (kd_le _ (bY_lt f a9)) 5 (by decide); unfold nv; rw [if_neg (fun z => c_6 (q9.mpr z))]; rw [if_pos (q8.mp c_13)]), by rw [ht]; exact hP, va_K.moved hW.alike hK, hD⟩, hS.F ht⟩) hS.2.2 dX0_numberAt_49
  · skip
    refine lv_iload_n hx hb dX0_numberAt_15 rfl (lv_at hl 1 rfl) ?_
    refine gsl (As := [.int (nI (bY f a9))]) (rest := []) ⟨hx, hb, hml, hown, hts⟩ (c_X0_numberInside l dC dI tk tw _ (bY f a9) (bY_lt f a9)) (va_cwS 1 hts gX0_numberAt_X0_numberInside rfl rfl rfl (by decide +kernel) ⟨Nat.le_of_ble_eq_true rfl, Nat.le_of_ble_eq_true rfl⟩) hP hS hA hZ rfl hl.1 rfl (Nat.le_of_ble_eq_true rfl) dX0_numberAt_16 ⟨Nat.le_of_ble_eq_true rfl, Nat.le_of_ble_eq_true rfl⟩ (fun r_17 H locs hw_16 hP hS => ?_)
    obtain rfl : r_17 = sI (bY f a9) := hw_16
    exact W.lret (v := sI (bY f a9)) hx hb hr (fun t ht hW => ⟨⟨sI (bY f a9), (), rfl, (by have q9 := nI_z (k := wd (bY f a9)) (by have := wd_le _ (bY_lt f a9); omega); unfold nv; rw [if_pos (q9.mp c_6), sI_ow _ (bY_lt f a9) (q9.mp c_6)]), by rw [ht]; exact hP, va_K.moved hW.alike hK, hD⟩, hS.F ht⟩) hS.2.2 dX0_numberAt_19
end
section
set_option maxHeartbeats 4000000 in
set_option maxRecDepth 100000 in
theorem c_X0_typeAt (l : Launch) (dC : Nat → ClassId) (dI : Nat → Nat → Nat) (tk tw : Nat) (h a b : Nat) (cB cJ : ClassId) (sz : Nat) (f : Nat → Int32) (g : Nat → Int64) (zs : Int32) (zc : Int32) (zg : Int32) (zo : Int32) (a9 : Nat) (h9 : a9 + hd (bY f a9) ≤ 4096) : Met l yX0_typeAt wsX0_typeAt ({ frames := 4, cells := 0, slots := 0, locals := 81 }) (va_Pc [.ref h, .int (nI a9)] (pr dC dI (t0 cB cJ) (w0 h a b cB cJ f g zs zc zg zo) sz tk tw)) (va_Qi (fun (r : Int32) (_ : Unit) => r = f (a9 + hd (bY f a9) - 1)) (fun (_ : Unit) => po dC dI (t0 cB cJ) (va_A (w0 h a b cB cJ f g zs zc zg zo) sz) (w0 h a b cB cJ f g zs zc zg zo)) (va_A (w0 h a b cB cJ f g zs zc zg zo) sz)) 0 0 (va_A (w0 h a b cB cJ f g zs zc zg zo) sz) := by
  refine Met.ofW (cc := cX0_typeAt) (maxL := 2) (ret := (some .int)) (by decide) rfl ?_
  intro p e s m args below meth c s₁ Bd hml hv
  obtain ⟨rfl, hsz, hP, hK, hD0, hZ⟩ := hv
  have hx := Bd.exec
  have hb := Bd.bytes
  have hr := Bd.returns
  have hts := atoms_spec (ws := wsX0_typeAt) Bd.pre
  have hown : s.vm.findClass RX0 = some m.cls := findClass_of_methodNamed Bd.named
  have hlocks := Bd.notSynchronized
  subst hsz
  have hD := hD0.self (sz := s.heap.size)
  generalize hAe : va_A (w0 h a b cB cJ f g zs zc zg zo) s.heap.size = A at hD hZ ⊢
  have hA : ∀ q : Nat, s.heap.size ≤ q → A q := fun q h => by rw [← hAe]; exact Or.inr h
  have hS : va_S A s.heap s.heap [] := va_S.rf
  have hP : va_P (dC, dI) vwCl (w0 h a b cB cJ f g zs zc zg zo) s.heap := hP
  have hin0 : ∀ w ∈ wsX00, w ∈ wsX0_typeAt := by decide +kernel
  have fl9 := hts (.fieldLink RX0 9 "MessageReader" "store" "[B") (by decide +kernel)
  have hl := lv_entry ([.ref h, .int (nI a9)]) (n := 2) (Nat.le_of_ble_eq_true rfl)
  rw [lg_entry_eq]
  generalize (lg_sl ([.ref h, .int (nI a9)]) ++ List.replicate (2 - (lg_sl ([.ref h, .int (nI a9)])).length) Slot.unset).toArray = ls at hl ⊢
  have hl : lv_has ls 2 [(0, .ref h), (1, .int (nI a9))] := hl
  refine lv_aload_n hx hb dX0_typeAt_0 rfl (lv_at hl 0 rfl) ?_
  refine va_get (D := (dC, dI)) (ci := 0) (v := .ref a) (C := RX0) (T := TX0) (N := 6) hx hb hts hin0 hown hK hP 0 rfl rfl 0 (by decide) fl9 (fun _ h9 => h9) rfl dX0_typeAt_1 ?_
  refine lv_iload_n hx hb dX0_typeAt_4 rfl (lv_at hl 1 rfl) ?_
  refine lv_aload_n hx hb dX0_typeAt_5 rfl (lv_at hl 0 rfl) ?_
  refine lv_iload_n hx hb dX0_typeAt_6 rfl (lv_at hl 1 rfl) ?_
  refine gvi (As := [.int (nI a9)]) (rest := [.int (nI a9), .ref a]) ⟨hx, hb, hml, hown, hts⟩ (c_X0_headLengthAt l dC dI tk tw h a b cB cJ _ f g zs zc zg zo a9 (by have q7 := hd_le _ (bY_lt f a9); omega)) (cwV 1 hts gX0_typeAt_X0_headLengthAt rfl rfl rfl (by decide +kernel) ⟨Nat.le_of_ble_eq_true rfl, Nat.le_of_ble_eq_true rfl⟩) hK hP hD hS hA hZ (q0 := 0) (ci := 0) rfl rfl rfl rfl hl.1 rfl (Nat.le_of_ble_eq_true rfl) dX0_typeAt_7 ⟨Nat.le_of_ble_eq_true rfl, Nat.le_of_ble_eq_true rfl⟩ (fun r_2 u_3 H locs hw_1 hP hD hS => ?_)
  obtain rfl : r_2 = nI (hd (bY f a9)) := hw_1
  refine lv_iadd hx hb dX0_typeAt_10 ?_
  refine lv_iconst (v := 1) hx hb dX0_typeAt_11 (by decide) ?_
  refine lv_isub hx hb dX0_typeAt_12 ?_
  have e_4 : (((nI a9) + (nI (hd (bY f a9)))) - 1 : Int32) = nI (a9 + hd (bY f a9) - 1) := nI_am1 (by have q7 := hd_le _ (bY_lt f a9); omega)
  rw [e_4]
  refine va_bald hx hb hK hP 1 0 rfl rfl (vp_in_nI (by have q7 := hd_le _ (bY_lt f a9); omega) (by decide)) dX0_typeAt_13 ?_
  exact W.iret (v := f (nI (a9 + hd (bY f a9) - 1)).toNatClampNeg) hx hb hr (fun t ht hW => ⟨⟨f (nI (a9 + hd (bY f a9) - 1)).toNatClampNeg, (), rfl, (by rw [nI_clamp (by omega)]), by rw [ht]; exact hP, va_K.moved hW.alike hK, hD⟩, hS.F ht⟩) hS.2.2 dX0_typeAt_14
set_option maxHeartbeats 4000000 in
set_option maxRecDepth 100000 in
theorem c_X0_payloadLengthAt (l : Launch) (dC : Nat → ClassId) (dI : Nat → Nat → Nat) (tk tw : Nat) (h a b : Nat) (cB cJ : ClassId) (sz : Nat) (f : Nat → Int32) (g : Nat → Int64) (zs : Int32) (zc : Int32) (zg : Int32) (zo : Int32) (a9 : Nat) (h9 : a9 + 1 + wd (bY f a9) ≤ 4096) : Met l yX0_payloadLengthAt wsX0_payloadLengthAt ({ frames := 3, cells := 0, slots := 0, locals := 71 }) (va_Pc [.ref h, .int (nI a9)] (pr dC dI (t0 cB cJ) (w0 h a b cB cJ f g zs zc zg zo) sz tk tw)) (va_Qi (fun (r : Int32) (_ : Unit) => r = pl (bY f) a9) (fun (_ : Unit) => po dC dI (t0 cB cJ) (va_A (w0 h a b cB cJ f g zs zc zg zo) sz) (w0 h a b cB cJ f g zs zc zg zo)) (va_A (w0 h a b cB cJ f g zs zc zg zo) sz)) 0 0 (va_A (w0 h a b cB cJ f g zs zc zg zo) sz) := by
  refine Met.ofW (cc := cX0_payloadLengthAt) (maxL := 2) (ret := (some .int)) (by decide) rfl ?_
  intro p e s m args below meth c s₁ Bd hml hv
  obtain ⟨rfl, hsz, hP, hK, hD0, hZ⟩ := hv
  have hx := Bd.exec
  have hb := Bd.bytes
  have hr := Bd.returns
  have hts := atoms_spec (ws := wsX0_payloadLengthAt) Bd.pre
  have hown : s.vm.findClass RX0 = some m.cls := findClass_of_methodNamed Bd.named
  have hlocks := Bd.notSynchronized
  subst hsz
  have hD := hD0.self (sz := s.heap.size)
  generalize hAe : va_A (w0 h a b cB cJ f g zs zc zg zo) s.heap.size = A at hD hZ ⊢
  have hA : ∀ q : Nat, s.heap.size ≤ q → A q := fun q h => by rw [← hAe]; exact Or.inr h
  have hS : va_S A s.heap s.heap [] := va_S.rf
  have hP : va_P (dC, dI) vwCl (w0 h a b cB cJ f g zs zc zg zo) s.heap := hP
  have hl := lv_entry ([.ref h, .int (nI a9)]) (n := 2) (Nat.le_of_ble_eq_true rfl)
  rw [lg_entry_eq]
  generalize (lg_sl ([.ref h, .int (nI a9)]) ++ List.replicate (2 - (lg_sl ([.ref h, .int (nI a9)])).length) Slot.unset).toArray = ls at hl ⊢
  have hl : lv_has ls 2 [(0, .ref h), (1, .int (nI a9))] := hl
  refine lv_aload_n hx hb dX0_payloadLengthAt_0 rfl (lv_at hl 0 rfl) ?_
  refine lv_iload_n hx hb dX0_payloadLengthAt_1 rfl (lv_at hl 1 rfl) ?_
  refine gvi (As := [.int (nI a9)]) (rest := []) ⟨hx, hb, hml, hown, hts⟩ (c_X0_kindAt l dC dI tk tw h a b cB cJ _ f g zs zc zg zo a9 (by omega)) (cwV 1 hts gX0_payloadLengthAt_X0_kindAt rfl rfl rfl (by decide +kernel) ⟨Nat.le_of_ble_eq_true rfl, Nat.le_of_ble_eq_true rfl⟩) hK hP hD hS hA hZ (q0 := 0) (ci := 0) rfl rfl rfl rfl hl.1 rfl (Nat.le_of_ble_eq_true rfl) dX0_payloadLengthAt_2 ⟨Nat.le_of_ble_eq_true rfl, Nat.le_of_ble_eq_true rfl⟩ (fun r_2 u_3 H locs hw_1 hP hD hS => ?_)
  obtain rfl : r_2 = nI (kd (bY f a9)) := hw_1
  refine gsi (As := [.int (nI (kd (bY f a9)))]) (rest := []) ⟨hx, hb, hml, hown, hts⟩ (c_X0_hasPayload l dC dI tk tw _ (kd (bY f a9)) (kd_le _ (bY_lt f a9))) (va_cwS 1 hts gX0_payloadLengthAt_X0_hasPayload rfl rfl rfl (by decide +kernel) ⟨Nat.le_of_ble_eq_true rfl, Nat.le_of_ble_eq_true rfl⟩) hP hS hA hZ rfl hl.1 rfl (Nat.le_of_ble_eq_true rfl) dX0_payloadLengthAt_5 ⟨Nat.le_of_ble_eq_true rfl, Nat.le_of_ble_eq_true rfl⟩ (fun r_5 H locs hw_4 hP hS => ?_)
  obtain rfl : r_5 = (if hp (kd (bY f a9)) = true then 1 else 0) := hw_4
  refine lv_if_eq (tgt := 20) hx hb dX0_payloadLengthAt_8 (by decide) (fun c_6 => ?_) (fun c_6 => ?_)
  · skip
    refine lv_iconst (v := 0) hx hb dX0_payloadLengthAt_20 (by decide) ?_
    exact W.iret (v := 0) hx hb hr (fun t ht hW => ⟨⟨0, (), rfl, (by unfold pl; by_cases q : hp (kd (bY f a9)) = true <;> simp [q] at c_6 ⊢), by rw [ht]; exact hP, va_K.moved hW.alike hK, hD⟩, hS.F ht⟩) hS.2.2 dX0_payloadLengthAt_21
  · skip
    refine lv_aload_n hx hb dX0_payloadLengthAt_11 rfl (lv_at hl 0 rfl) ?_
    refine lv_iload_n hx hb dX0_payloadLengthAt_12 rfl (lv_at hl 1 rfl) ?_
    refine gvl (As := [.int (nI a9)]) (rest := []) ⟨hx, hb, hml, hown, hts⟩ (c_X0_numberAt l dC dI tk tw h a b cB cJ _ f g zs zc zg zo a9 h9) (cwV 1 hts gX0_payloadLengthAt_X0_numberAt rfl rfl rfl (by decide +kernel) ⟨Nat.le_of_ble_eq_true rfl, Nat.le_of_ble_eq_true rfl⟩) hK hP hD hS hA hZ (q0 := 0) (ci := 0) rfl rfl rfl rfl hl.1 rfl (Nat.le_of_ble_eq_true rfl) dX0_payloadLengthAt_13 ⟨Nat.le_of_ble_eq_true rfl, Nat.le_of_ble_eq_true rfl⟩ (fun r_8 u_9 H locs hw_7 hP hD hS => ?_)
    obtain rfl : r_8 = nv (bY f) a9 := hw_7
    refine lv_l2i hx hb dX0_payloadLengthAt_16 rfl ?_
    refine lv_goto (tgt := 21) hx hb dX0_payloadLengthAt_17 (by decide) ?_
    exact W.iret (v := (nv (bY f) a9).toInt32) hx hb hr (fun t ht hW => ⟨⟨(nv (bY f) a9).toInt32, (), rfl, (by unfold pl; by_cases q : hp (kd (bY f a9)) = true <;> simp [q] at c_6 ⊢), by rw [ht]; exact hP, va_K.moved hW.alike hK, hD⟩, hS.F ht⟩) hS.2.2 dX0_payloadLengthAt_21
set_option maxHeartbeats 4000000 in
set_option maxRecDepth 100000 in
theorem c_X0_childrenAt (l : Launch) (dC : Nat → ClassId) (dI : Nat → Nat → Nat) (tk tw : Nat) (h a b : Nat) (cB cJ : ClassId) (sz : Nat) (f : Nat → Int32) (g : Nat → Int64) (zs : Int32) (zc : Int32) (zg : Int32) (zo : Int32) (a9 : Nat) (h9 : a9 + 1 + wd (bY f a9) ≤ 4096) : Met l yX0_childrenAt wsX0_childrenAt ({ frames := 3, cells := 0, slots := 0, locals := 71 }) (va_Pc [.ref h, .int (nI a9)] (pr dC dI (t0 cB cJ) (w0 h a b cB cJ f g zs zc zg zo) sz tk tw)) (va_Ql (fun (r : Int64) (_ : Unit) => r = ch (bY f) a9) (fun (_ : Unit) => po dC dI (t0 cB cJ) (va_A (w0 h a b cB cJ f g zs zc zg zo) sz) (w0 h a b cB cJ f g zs zc zg zo)) (va_A (w0 h a b cB cJ f g zs zc zg zo) sz)) 0 0 (va_A (w0 h a b cB cJ f g zs zc zg zo) sz) := by
  refine Met.ofW (cc := cX0_childrenAt) (maxL := 2) (ret := (some .long)) (by decide) rfl ?_
  intro p e s m args below meth c s₁ Bd hml hv
  obtain ⟨rfl, hsz, hP, hK, hD0, hZ⟩ := hv
  have hx := Bd.exec
  have hb := Bd.bytes
  have hr := Bd.returns
  have hts := atoms_spec (ws := wsX0_childrenAt) Bd.pre
  have hown : s.vm.findClass RX0 = some m.cls := findClass_of_methodNamed Bd.named
  have hlocks := Bd.notSynchronized
  subst hsz
  have hD := hD0.self (sz := s.heap.size)
  generalize hAe : va_A (w0 h a b cB cJ f g zs zc zg zo) s.heap.size = A at hD hZ ⊢
  have hA : ∀ q : Nat, s.heap.size ≤ q → A q := fun q h => by rw [← hAe]; exact Or.inr h
  have hS : va_S A s.heap s.heap [] := va_S.rf
  have hP : va_P (dC, dI) vwCl (w0 h a b cB cJ f g zs zc zg zo) s.heap := hP
  have hl := lv_entry ([.ref h, .int (nI a9)]) (n := 2) (Nat.le_of_ble_eq_true rfl)
  rw [lg_entry_eq]
  generalize (lg_sl ([.ref h, .int (nI a9)]) ++ List.replicate (2 - (lg_sl ([.ref h, .int (nI a9)])).length) Slot.unset).toArray = ls at hl ⊢
  have hl : lv_has ls 2 [(0, .ref h), (1, .int (nI a9))] := hl
  refine lv_aload_n hx hb dX0_childrenAt_0 rfl (lv_at hl 0 rfl) ?_
  refine lv_iload_n hx hb dX0_childrenAt_1 rfl (lv_at hl 1 rfl) ?_
  refine gvi (As := [.int (nI a9)]) (rest := []) ⟨hx, hb, hml, hown, hts⟩ (c_X0_kindAt l dC dI tk tw h a b cB cJ _ f g zs zc zg zo a9 (by omega)) (cwV 1 hts gX0_childrenAt_X0_kindAt rfl rfl rfl (by decide +kernel) ⟨Nat.le_of_ble_eq_true rfl, Nat.le_of_ble_eq_true rfl⟩) hK hP hD hS hA hZ (q0 := 0) (ci := 0) rfl rfl rfl rfl hl.1 rfl (Nat.le_of_ble_eq_true rfl) dX0_childrenAt_2 ⟨Nat.le_of_ble_eq_true rfl, Nat.le_of_ble_eq_true rfl⟩ (fun r_2 u_3 H locs hw_1 hP hD hS => ?_)
  obtain rfl : r_2 = nI (kd (bY f a9)) := hw_1
  by_cases c_4 : (nI (kd (bY f a9))) = 10
  · skip
    refine lv_lookup (off := 27) (tgt := 32) hx hb dX0_childrenAt_5 (by decide) (by rw [c_4] <;> rfl) (by decide) ?_
    refine lv_aload_n hx hb dX0_childrenAt_32 rfl (lv_at hl 0 rfl) ?_
    refine lv_iload_n hx hb dX0_childrenAt_33 rfl (lv_at hl 1 rfl) ?_
    refine gvl (As := [.int (nI a9)]) (rest := []) ⟨hx, hb, hml, hown, hts⟩ (c_X0_numberAt l dC dI tk tw h a b cB cJ _ f g zs zc zg zo a9 h9) (cwV 1 hts gX0_childrenAt_X0_numberAt rfl rfl rfl (by decide +kernel) ⟨Nat.le_of_ble_eq_true rfl, Nat.le_of_ble_eq_true rfl⟩) hK hP hD hS hA hZ (q0 := 0) (ci := 0) rfl rfl rfl rfl hl.1 rfl (Nat.le_of_ble_eq_true rfl) dX0_childrenAt_34 ⟨Nat.le_of_ble_eq_true rfl, Nat.le_of_ble_eq_true rfl⟩ (fun r_6 u_7 H locs hw_5 hP hD hS => ?_)
    obtain rfl : r_6 = nv (bY f) a9 := hw_5
    exact W.lret (v := nv (bY f) a9) hx hb hr (fun t ht hW => ⟨⟨nv (bY f) a9, (), rfl, (by have qc_4 :  kd (bY f a9) = 10 := (nI_e12 _ (kd_le _ (bY_lt f a9)) 10 (by decide)).mp c_4; simp [ch, qc_4]), by rw [ht]; exact hP, va_K.moved hW.alike hK, hD⟩, hS.F ht⟩) hS.2.2 dX0_childrenAt_37
  by_cases c_8 : (nI (kd (bY f a9))) = 11
  · skip
    refine lv_lookup (off := 33) (tgt := 38) hx hb dX0_childrenAt_5 (by decide) (by rw [c_8] <;> rfl) (by decide) ?_
    refine lv_ldc2 (v := 2) hx hb hown (hts (.constantLong RX0 157 (2)) (by decide +kernel)) dX0_childrenAt_38 ?_
    refine lv_aload_n hx hb dX0_childrenAt_41 rfl (lv_at hl 0 rfl) ?_
    refine lv_iload_n hx hb dX0_childrenAt_42 rfl (lv_at hl 1 rfl) ?_
    refine gvl (As := [.int (nI a9)]) (rest := [.long 2]) ⟨hx, hb, hml, hown, hts⟩ (c_X0_numberAt l dC dI tk tw h a b cB cJ _ f g zs zc zg zo a9 h9) (cwV 1 hts gX0_childrenAt_X0_numberAt rfl rfl rfl (by decide +kernel) ⟨Nat.le_of_ble_eq_true rfl, Nat.le_of_ble_eq_true rfl⟩) hK hP hD hS hA hZ (q0 := 0) (ci := 0) rfl rfl rfl rfl hl.1 rfl (Nat.le_of_ble_eq_true rfl) dX0_childrenAt_43 ⟨Nat.le_of_ble_eq_true rfl, Nat.le_of_ble_eq_true rfl⟩ (fun r_10 u_11 H locs hw_9 hP hD hS => ?_)
    obtain rfl : r_10 = nv (bY f) a9 := hw_9
    refine lv_lmul hx hb dX0_childrenAt_46 ?_
    exact W.lret (v := 2 * (nv (bY f) a9)) hx hb hr (fun t ht hW => ⟨⟨2 * (nv (bY f) a9), (), rfl, (by have qc_4 : ¬ kd (bY f a9) = 10 := fun z => c_4 ((nI_e12 _ (kd_le _ (bY_lt f a9)) 10 (by decide)).mpr z); have qc_8 :  kd (bY f a9) = 11 := (nI_e12 _ (kd_le _ (bY_lt f a9)) 11 (by decide)).mp c_8; simp [ch, qc_4, qc_8]), by rw [ht]; exact hP, va_K.moved hW.alike hK, hD⟩, hS.F ht⟩) hS.2.2 dX0_childrenAt_47
  refine lv_lookup (off := 43) (tgt := 48) hx hb dX0_childrenAt_5 (by decide) (by show Op.lookupswitch.offset [(10, 27), (11, 33)] _ _ = _; rw [lv_osw c_4 (by decide), lv_osw c_8 (by decide)] <;> rfl) (by decide) ?_
  refine lv_lconst (v := 0) hx hb dX0_childrenAt_48 (by decide) ?_
  exact W.lret (v := 0) hx hb hr (fun t ht hW => ⟨⟨0, (), rfl, (by have qc_4 : ¬ kd (bY f a9) = 10 := fun z => c_4 ((nI_e12 _ (kd_le _ (bY_lt f a9)) 10 (by decide)).mpr z); have qc_8 : ¬ kd (bY f a9) = 11 := fun z => c_8 ((nI_e12 _ (kd_le _ (bY_lt f a9)) 11 (by decide)).mpr z); simp [ch, qc_4, qc_8]), by rw [ht]; exact hP, va_K.moved hW.alike hK, hD⟩, hS.F ht⟩) hS.2.2 dX0_childrenAt_49
set_option maxHeartbeats 4000000 in
set_option maxRecDepth 100000 in
theorem c_X0_endAt (l : Launch) (dC : Nat → ClassId) (dI : Nat → Nat → Nat) (tk tw : Nat) (h a b : Nat) (cB cJ : ClassId) (sz : Nat) (f : Nat → Int32) (g : Nat → Int64) (zs : Int32) (zc : Int32) (zg : Int32) (zo : Int32) (a9 : Nat) (h9 : a9 + 1 + wd (bY f a9) ≤ 4096) : Met l yX0_endAt wsX0_endAt ({ frames := 4, cells := 0, slots := 0, locals := 92 }) (va_Pc [.ref h, .int (nI a9)] (pr dC dI (t0 cB cJ) (w0 h a b cB cJ f g zs zc zg zo) sz tk tw)) (va_Qi (fun (r : Int32) (_ : Unit) => r = nI a9 + nI (hd (bY f a9)) + pl (bY f) a9) (fun (_ : Unit) => po dC dI (t0 cB cJ) (va_A (w0 h a b cB cJ f g zs zc zg zo) sz) (w0 h a b cB cJ f g zs zc zg zo)) (va_A (w0 h a b cB cJ f g zs zc zg zo) sz)) 0 0 (va_A (w0 h a b cB cJ f g zs zc zg zo) sz) := by
  refine Met.ofW (cc := cX0_endAt) (maxL := 2) (ret := (some .int)) (by decide) rfl ?_
  intro p e s m args below meth c s₁ Bd hml hv
  obtain ⟨rfl, hsz, hP, hK, hD0, hZ⟩ := hv
  have hx := Bd.exec
  have hb := Bd.bytes
  have hr := Bd.returns
  have hts := atoms_spec (ws := wsX0_endAt) Bd.pre
  have hown : s.vm.findClass RX0 = some m.cls := findClass_of_methodNamed Bd.named
  have hlocks := Bd.notSynchronized
  subst hsz
  have hD := hD0.self (sz := s.heap.size)
  generalize hAe : va_A (w0 h a b cB cJ f g zs zc zg zo) s.heap.size = A at hD hZ ⊢
  have hA : ∀ q : Nat, s.heap.size ≤ q → A q := fun q h => by rw [← hAe]; exact Or.inr h
  have hS : va_S A s.heap s.heap [] := va_S.rf
  have hP : va_P (dC, dI) vwCl (w0 h a b cB cJ f g zs zc zg zo) s.heap := hP
  have hl := lv_entry ([.ref h, .int (nI a9)]) (n := 2) (Nat.le_of_ble_eq_true rfl)
  rw [lg_entry_eq]
  generalize (lg_sl ([.ref h, .int (nI a9)]) ++ List.replicate (2 - (lg_sl ([.ref h, .int (nI a9)])).length) Slot.unset).toArray = ls at hl ⊢
  have hl : lv_has ls 2 [(0, .ref h), (1, .int (nI a9))] := hl
  refine lv_iload_n hx hb dX0_endAt_0 rfl (lv_at hl 1 rfl) ?_
  refine lv_aload_n hx hb dX0_endAt_1 rfl (lv_at hl 0 rfl) ?_
  refine lv_iload_n hx hb dX0_endAt_2 rfl (lv_at hl 1 rfl) ?_
  refine gvi (As := [.int (nI a9)]) (rest := [.int (nI a9)]) ⟨hx, hb, hml, hown, hts⟩ (c_X0_headLengthAt l dC dI tk tw h a b cB cJ _ f g zs zc zg zo a9 (by omega)) (cwV 1 hts gX0_endAt_X0_headLengthAt rfl rfl rfl (by decide +kernel) ⟨Nat.le_of_ble_eq_true rfl, Nat.le_of_ble_eq_true rfl⟩) hK hP hD hS hA hZ (q0 := 0) (ci := 0) rfl rfl rfl rfl hl.1 rfl (Nat.le_of_ble_eq_true rfl) dX0_endAt_3 ⟨Nat.le_of_ble_eq_true rfl, Nat.le_of_ble_eq_true rfl⟩ (fun r_2 u_3 H locs hw_1 hP hD hS => ?_)
  obtain rfl : r_2 = nI (hd (bY f a9)) := hw_1
  refine lv_iadd hx hb dX0_endAt_6 ?_
  refine lv_aload_n hx hb dX0_endAt_7 rfl (lv_at hl 0 rfl) ?_
  refine lv_iload_n hx hb dX0_endAt_8 rfl (lv_at hl 1 rfl) ?_
  refine gvi (As := [.int (nI a9)]) (rest := [.int ((nI a9) + (nI (hd (bY f a9))))]) ⟨hx, hb, hml, hown, hts⟩ (c_X0_payloadLengthAt l dC dI tk tw h a b cB cJ _ f g zs zc zg zo a9 h9) (cwV 1 hts gX0_endAt_X0_payloadLengthAt rfl rfl rfl (by decide +kernel) ⟨Nat.le_of_ble_eq_true rfl, Nat.le_of_ble_eq_true rfl⟩) hK hP hD hS hA hZ (q0 := 0) (ci := 0) rfl rfl rfl rfl hl.1 rfl (Nat.le_of_ble_eq_true rfl) dX0_endAt_9 ⟨Nat.le_of_ble_eq_true rfl, Nat.le_of_ble_eq_true rfl⟩ (fun r_5 u_6 H locs hw_4 hP hD hS => ?_)
  obtain rfl : r_5 = pl (bY f) a9 := hw_4
  refine lv_iadd hx hb dX0_endAt_12 ?_
  exact W.iret (v := ((nI a9) + (nI (hd (bY f a9)))) + (pl (bY f) a9)) hx hb hr (fun t ht hW => ⟨⟨((nI a9) + (nI (hd (bY f a9)))) + (pl (bY f) a9), (), rfl, rfl, by rw [ht]; exact hP, va_K.moved hW.alike hK, hD⟩, hS.F ht⟩) hS.2.2 dX0_endAt_13
set_option maxHeartbeats 4000000 in
set_option maxRecDepth 100000 in
theorem c_X0_lookAt (l : Launch) (dC : Nat → ClassId) (dI : Nat → Nat → Nat) (tk tw : Nat) (h a b : Nat) (cB cJ : ClassId) (sz : Nat) (f : Nat → Int32) (g : Nat → Int64) (zc : Int32) (zg : Int32) (zo : Int32) (n9 a9 : Nat) (hn9 : n9 ≤ 4096) (h9 : a9 ≤ 4096) : Met l yX0_lookAt wsX0_lookAt ({ frames := 4, cells := 0, slots := 0, locals := 92 }) (va_Pc [.ref h, .int (nI a9)] (pr dC dI (t0 cB cJ) (w0 h a b cB cJ f g (nI n9) zc zg zo) sz tk tw)) (va_Qi (fun (r : Int32) (_ : Unit) => r = lkS (bY f) n9 a9) (fun (_ : Unit) => po dC dI (t0 cB cJ) (va_A (w0 h a b cB cJ f g (nI n9) zc zg zo) sz) (w0 h a b cB cJ f g (nI n9) zc zg zo)) (va_A (w0 h a b cB cJ f g (nI n9) zc zg zo) sz)) 0 0 (va_A (w0 h a b cB cJ f g (nI n9) zc zg zo) sz) := by
  refine Met.ofW (cc := cX0_lookAt) (maxL := 5) (ret := (some .int)) (by decide) rfl ?_
  intro p e s m args below meth c s₁ Bd hml hv
  obtain ⟨rfl, hsz, hP, hK, hD0, hZ⟩ := hv
  have hx := Bd.exec
  have hb := Bd.bytes
  have hr := Bd.returns
  have hts := atoms_spec (ws := wsX0_lookAt) Bd.pre
  have hown : s.vm.findClass RX0 = some m.cls := findClass_of_methodNamed Bd.named
  have hlocks := Bd.notSynchronized
  subst hsz
  have hD := hD0.self (sz := s.heap.size)
  generalize hAe : va_A (w0 h a b cB cJ f g (nI n9) zc zg zo) s.heap.size = A at hD hZ ⊢
  have hA : ∀ q : Nat, s.heap.size ≤ q → A q := fun q h => by rw [← hAe]; exact Or.inr h
  have hS : va_S A s.heap s.heap [] := va_S.rf
  have hP : va_P (dC, dI) vwCl (w0 h a b cB cJ f g (nI n9) zc zg zo) s.heap := hP
  have hin0 : ∀ w ∈ wsX00, w ∈ wsX0_lookAt := by decide +kernel
  have fl13 := hts (.fieldLink RX0 13 "MessageReader" "size" "I") (by decide +kernel)
  have hl := lv_entry ([.ref h, .int (nI a9)]) (n := 5) (Nat.le_of_ble_eq_true rfl)
  rw [lg_entry_eq]
  generalize (lg_sl ([.ref h, .int (nI a9)]) ++ List.replicate (5 - (lg_sl ([.ref h, .int (nI a9)])).length) Slot.unset).toArray = ls at hl ⊢
  have hl : lv_has ls 5 [(0, .ref h), (1, .int (nI a9))] := hl
  refine lv_iload_n hx hb dX0_lookAt_0 rfl (lv_at hl 1 rfl) ?_
  refine lv_aload_n hx hb dX0_lookAt_1 rfl (lv_at hl 0 rfl) ?_
  refine va_get (D := (dC, dI)) (ci := 0) (v := .int (nI n9)) (C := RX0) (T := TX0) (N := 6) hx hb hts hin0 hown hK hP 0 rfl rfl 1 (by decide) fl13 (fun _ h9 => h9) rfl dX0_lookAt_2 ?_
  refine lv_icmp_lt (tgt := 11) hx hb dX0_lookAt_5 (by decide) (fun c_1 => ?_) (fun c_1 => ?_)
  · skip
    have q1 : a9 < n9 := (nI_ltI (by omega) (by omega)).mp c_1
    refine lv_aload_n hx hb dX0_lookAt_11 rfl (lv_at hl 0 rfl) ?_
    refine lv_iload_n hx hb dX0_lookAt_12 rfl (lv_at hl 1 rfl) ?_
    refine gvi (As := [.int (nI a9)]) (rest := []) ⟨hx, hb, hml, hown, hts⟩ (c_X0_storedByte l dC dI tk tw h a b cB cJ _ f g (nI n9) zc zg zo a9 (by omega)) (cwV 1 hts gX0_lookAt_X0_storedByte rfl rfl rfl (by decide +kernel) ⟨Nat.le_of_ble_eq_true rfl, Nat.le_of_ble_eq_true rfl⟩) hK hP hD hS hA hZ (q0 := 0) (ci := 0) rfl rfl rfl rfl hl.1 rfl (Nat.le_of_ble_eq_true rfl) dX0_lookAt_13 ⟨Nat.le_of_ble_eq_true rfl, Nat.le_of_ble_eq_true rfl⟩ (fun r_3 u_4 H locs hw_2 hP hD hS => ?_)
    obtain rfl : r_3 = nI (bY f a9) := hw_2
    refine lv_istore_n (lv' := [(2, .int (nI (bY f a9))), (0, .ref h), (1, .int (nI a9))]) hx hb dX0_lookAt_16 rfl hl (by decide) rfl (fun ls hl => ?_)
    refine lv_iload_n hx hb dX0_lookAt_17 rfl (lv_at hl 0 rfl) ?_
    refine lv_sipush (v := 193) hx hb dX0_lookAt_18 (by decide) ?_
    refine lv_icmp_ne (tgt := 27) hx hb dX0_lookAt_21 (by decide) (fun c_5 => ?_) (fun c_5 => ?_)
    · skip
      refine lv_aload_n hx hb dX0_lookAt_27 rfl (lv_at hl 1 rfl) ?_
      refine va_get (D := (dC, dI)) (ci := 0) (v := .int (nI n9)) (C := RX0) (T := TX0) (N := 6) hx hb hts hin0 hown hK hP 0 rfl rfl 1 (by decide) fl13 (fun _ h9 => h9) rfl dX0_lookAt_28 ?_
      refine lv_iload_n hx hb dX0_lookAt_31 rfl (lv_at hl 2 rfl) ?_
      refine lv_isub hx hb dX0_lookAt_32 ?_
      refine lv_iload_n hx hb dX0_lookAt_33 rfl (lv_at hl 0 rfl) ?_
      refine gsi (As := [.int (nI (bY f a9))]) (rest := [.int ((nI n9) - (nI a9))]) ⟨hx, hb, hml, hown, hts⟩ (c_X0_headLength l dC dI tk tw _ (bY f a9) (bY_lt f a9)) (va_cwS 1 hts gX0_lookAt_X0_headLength rfl rfl rfl (by decide +kernel) ⟨Nat.le_of_ble_eq_true rfl, Nat.le_of_ble_eq_true rfl⟩) hP hS hA hZ rfl hl.1 rfl (Nat.le_of_ble_eq_true rfl) dX0_lookAt_34 ⟨Nat.le_of_ble_eq_true rfl, Nat.le_of_ble_eq_true rfl⟩ (fun r_7 H locs hw_6 hP hS => ?_)
      obtain rfl : r_7 = nI (hd (bY f a9)) := hw_6
      refine lv_isub hx hb dX0_lookAt_37 ?_
      refine lv_istore_n (lv' := [(3, .int (((nI n9) - (nI a9)) - (nI (hd (bY f a9))))), (2, .int (nI (bY f a9))), (0, .ref h), (1, .int (nI a9))]) hx hb dX0_lookAt_38 rfl hl (by decide) rfl (fun ls hl => ?_)
      refine lv_iload_n hx hb dX0_lookAt_39 rfl (lv_at hl 0 rfl) ?_
      refine lv_if_ge (tgt := 46) hx hb dX0_lookAt_40 (by decide) (fun c_8 => ?_) (fun c_8 => ?_)
      · skip
        have q3 := nI_room hn9 q1 (hd_le _ (bY_lt f a9)).2.1 c_8
        have q4 := hd_le _ (bY_lt f a9)
        refine lv_iload_n hx hb dX0_lookAt_46 rfl (lv_at hl 1 rfl) ?_
        refine gsi (As := [.int (nI (bY f a9))]) (rest := []) ⟨hx, hb, hml, hown, hts⟩ (c_X0_kindOf l dC dI tk tw _ (bY f a9) (bY_lt f a9)) (va_cwS 1 hts gX0_lookAt_X0_kindOf rfl rfl rfl (by decide +kernel) ⟨Nat.le_of_ble_eq_true rfl, Nat.le_of_ble_eq_true rfl⟩) hP hS hA hZ rfl hl.1 rfl (Nat.le_of_ble_eq_true rfl) dX0_lookAt_47 ⟨Nat.le_of_ble_eq_true rfl, Nat.le_of_ble_eq_true rfl⟩ (fun r_10 H locs hw_9 hP hS => ?_)
        obtain rfl : r_10 = nI (kd (bY f a9)) := hw_9
        refine lv_istore (lv' := [(4, .int (nI (kd (bY f a9)))), (3, .int (((nI n9) - (nI a9)) - (nI (hd (bY f a9))))), (2, .int (nI (bY f a9))), (0, .ref h), (1, .int (nI a9))]) hx hb dX0_lookAt_50 hl (by decide) rfl (fun ls hl => ?_)
        refine lv_iload hx hb dX0_lookAt_52 (lv_at hl 0 rfl) ?_
        refine lv_bipush (v := 8) hx hb dX0_lookAt_54 (by decide) ?_
        refine lv_icmp_lt (tgt := 74) hx hb dX0_lookAt_56 (by decide) (fun c_11 => ?_) (fun c_11 => ?_)
        · skip
          refine lv_aload_n hx hb dX0_lookAt_74 rfl (lv_at hl 3 rfl) ?_
          refine lv_iload_n hx hb dX0_lookAt_75 rfl (lv_at hl 4 rfl) ?_
          refine gvi (As := [.int (nI a9)]) (rest := []) ⟨hx, hb, hml, hown, hts⟩ (c_X0_payloadLengthAt l dC dI tk tw h a b cB cJ _ f g (nI n9) zc zg zo a9 (by omega)) (cwV 1 hts gX0_lookAt_X0_payloadLengthAt rfl rfl rfl (by decide +kernel) ⟨Nat.le_of_ble_eq_true rfl, Nat.le_of_ble_eq_true rfl⟩) hK hP hD hS hA hZ (q0 := 0) (ci := 0) rfl rfl rfl rfl hl.1 rfl (Nat.le_of_ble_eq_true rfl) dX0_lookAt_76 ⟨Nat.le_of_ble_eq_true rfl, Nat.le_of_ble_eq_true rfl⟩ (fun r_13 u_14 H locs hw_12 hP hD hS => ?_)
          obtain rfl : r_13 = pl (bY f) a9 := hw_12
          refine lv_iload_n hx hb dX0_lookAt_79 rfl (lv_at hl 1 rfl) ?_
          refine lv_icmp_le (tgt := 88) hx hb dX0_lookAt_80 (by decide) (fun c_15 => ?_) (fun c_15 => ?_)
          · skip
            refine lv_iload hx hb dX0_lookAt_88 (lv_at hl 0 rfl) ?_
            exact W.iret (v := nI (kd (bY f a9))) hx hb hr (fun t ht hW => ⟨⟨nI (kd (bY f a9)), (), rfl, (by unfold lkS; rw [if_pos c_1, if_neg c_5, if_pos c_8, if_pos c_11, if_pos c_15]), by rw [ht]; exact hP, va_K.moved hW.alike hK, hD⟩, hS.F ht⟩) hS.2.2 dX0_lookAt_90
          · skip
            refine lv_bipush (v := -2) hx hb dX0_lookAt_83 (by decide) ?_
            refine lv_goto (tgt := 90) hx hb dX0_lookAt_85 (by decide) ?_
            exact W.iret (v := -2) hx hb hr (fun t ht hW => ⟨⟨-2, (), rfl, (by unfold lkS; rw [if_pos c_1, if_neg c_5, if_pos c_8, if_pos c_11, if_neg c_15]), by rw [ht]; exact hP, va_K.moved hW.alike hK, hD⟩, hS.F ht⟩) hS.2.2 dX0_lookAt_90
        · skip
          refine lv_aload_n hx hb dX0_lookAt_59 rfl (lv_at hl 3 rfl) ?_
          refine lv_iload_n hx hb dX0_lookAt_60 rfl (lv_at hl 4 rfl) ?_
          refine gvl (As := [.int (nI a9)]) (rest := []) ⟨hx, hb, hml, hown, hts⟩ (c_X0_numberAt l dC dI tk tw h a b cB cJ _ f g (nI n9) zc zg zo a9 (by omega)) (cwV 1 hts gX0_lookAt_X0_numberAt rfl rfl rfl (by decide +kernel) ⟨Nat.le_of_ble_eq_true rfl, Nat.le_of_ble_eq_true rfl⟩) hK hP hD hS hA hZ (q0 := 0) (ci := 0) rfl rfl rfl rfl hl.1 rfl (Nat.le_of_ble_eq_true rfl) dX0_lookAt_61 ⟨Nat.le_of_ble_eq_true rfl, Nat.le_of_ble_eq_true rfl⟩ (fun r_17 u_18 H locs hw_16 hP hD hS => ?_)
          obtain rfl : r_17 = nv (bY f) a9 := hw_16
          refine lv_ldc2 (v := 2147483647) hx hb hown (hts (.constantLong RX0 159 (2147483647)) (by decide +kernel)) dX0_lookAt_64 ?_
          refine W.lcmp hx hb dX0_lookAt_67 ?_
          refine lv_if_le (tgt := 74) hx hb dX0_lookAt_68 (by decide) (fun c_19 => ?_) (fun c_19 => ?_)
          · skip
            have c_19 := (lg_cmp_le (nv (bY f) a9) (2147483647 : Int64)).mp c_19
            refine lv_aload_n hx hb dX0_lookAt_74 rfl (lv_at hl 3 rfl) ?_
            refine lv_iload_n hx hb dX0_lookAt_75 rfl (lv_at hl 4 rfl) ?_
            refine gvi (As := [.int (nI a9)]) (rest := []) ⟨hx, hb, hml, hown, hts⟩ (c_X0_payloadLengthAt l dC dI tk tw h a b cB cJ _ f g (nI n9) zc zg zo a9 (by omega)) (cwV 1 hts gX0_lookAt_X0_payloadLengthAt rfl rfl rfl (by decide +kernel) ⟨Nat.le_of_ble_eq_true rfl, Nat.le_of_ble_eq_true rfl⟩) hK hP hD hS hA hZ (q0 := 0) (ci := 0) rfl rfl rfl rfl hl.1 rfl (Nat.le_of_ble_eq_true rfl) dX0_lookAt_76 ⟨Nat.le_of_ble_eq_true rfl, Nat.le_of_ble_eq_true rfl⟩ (fun r_21 u_22 H locs hw_20 hP hD hS => ?_)
            obtain rfl : r_21 = pl (bY f) a9 := hw_20
            refine lv_iload_n hx hb dX0_lookAt_79 rfl (lv_at hl 1 rfl) ?_
            refine lv_icmp_le (tgt := 88) hx hb dX0_lookAt_80 (by decide) (fun c_23 => ?_) (fun c_23 => ?_)
            · skip
              refine lv_iload hx hb dX0_lookAt_88 (lv_at hl 0 rfl) ?_
              exact W.iret (v := nI (kd (bY f a9))) hx hb hr (fun t ht hW => ⟨⟨nI (kd (bY f a9)), (), rfl, (by unfold lkS; rw [if_pos c_1, if_neg c_5, if_pos c_8, if_neg c_11, if_pos c_19, if_pos c_23]), by rw [ht]; exact hP, va_K.moved hW.alike hK, hD⟩, hS.F ht⟩) hS.2.2 dX0_lookAt_90
            · skip
              refine lv_bipush (v := -2) hx hb dX0_lookAt_83 (by decide) ?_
              refine lv_goto (tgt := 90) hx hb dX0_lookAt_85 (by decide) ?_
              exact W.iret (v := -2) hx hb hr (fun t ht hW => ⟨⟨-2, (), rfl, (by unfold lkS; rw [if_pos c_1, if_neg c_5, if_pos c_8, if_neg c_11, if_pos c_19, if_neg c_23]), by rw [ht]; exact hP, va_K.moved hW.alike hK, hD⟩, hS.F ht⟩) hS.2.2 dX0_lookAt_90
          · skip
            have c_19 := (not_congr (lg_cmp_le (nv (bY f) a9) (2147483647 : Int64))).mp c_19
            refine lv_bipush (v := -4) hx hb dX0_lookAt_71 (by decide) ?_
            exact W.iret (v := -4) hx hb hr (fun t ht hW => ⟨⟨-4, (), rfl, (by unfold lkS; rw [if_pos c_1, if_neg c_5, if_pos c_8, if_neg c_11, if_neg c_19]), by rw [ht]; exact hP, va_K.moved hW.alike hK, hD⟩, hS.F ht⟩) hS.2.2 dX0_lookAt_73
      · skip
        refine lv_bipush (v := -2) hx hb dX0_lookAt_43 (by decide) ?_
        exact W.iret (v := -2) hx hb hr (fun t ht hW => ⟨⟨-2, (), rfl, (by unfold lkS; rw [if_pos c_1, if_neg c_5, if_neg c_8]), by rw [ht]; exact hP, va_K.moved hW.alike hK, hD⟩, hS.F ht⟩) hS.2.2 dX0_lookAt_45
    · skip
      refine lv_bipush (v := -3) hx hb dX0_lookAt_24 (by decide) ?_
      exact W.iret (v := -3) hx hb hr (fun t ht hW => ⟨⟨-3, (), rfl, (by unfold lkS; rw [if_pos c_1, if_pos c_5]), by rw [ht]; exact hP, va_K.moved hW.alike hK, hD⟩, hS.F ht⟩) hS.2.2 dX0_lookAt_26
  · skip
    refine lv_bipush (v := -2) hx hb dX0_lookAt_8 (by decide) ?_
    exact W.iret (v := -2) hx hb hr (fun t ht hW => ⟨⟨-2, (), rfl, (by unfold lkS; rw [if_neg c_1]), by rw [ht]; exact hP, va_K.moved hW.alike hK, hD⟩, hS.F ht⟩) hS.2.2 dX0_lookAt_10
end
section
set_option maxHeartbeats 4000000 in
set_option maxRecDepth 100000 in
theorem c_X0_hasRoom (l : Launch) (dC : Nat → ClassId) (dI : Nat → Nat → Nat) (tk tw : Nat) (h a b : Nat) (cB cJ : ClassId) (sz : Nat) (f : Nat → Int32) (g : Nat → Int64) (zc : Int32) (zg : Int32) (zo : Int32) (n9 : Nat) (hn9 : n9 ≤ 4096) (k9 : Nat) (hk9 : k9 ≤ 4096) : Met l yX0_hasRoom wsX0_hasRoom ({ frames := 0, cells := 0, slots := 0, locals := 0 }) (va_Pc [.ref h, .int (nI k9)] (pr dC dI (t0 cB cJ) (w0 h a b cB cJ f g (nI n9) zc zg zo) sz tk tw)) (va_Qi (fun (r : Int32) (_ : Unit) => r = (if n9 + k9 ≤ 4096 then 1 else 0)) (fun (_ : Unit) => po dC dI (t0 cB cJ) (va_A (w0 h a b cB cJ f g (nI n9) zc zg zo) sz) (w0 h a b cB cJ f g (nI n9) zc zg zo)) (va_A (w0 h a b cB cJ f g (nI n9) zc zg zo) sz)) 0 0 (va_A (w0 h a b cB cJ f g (nI n9) zc zg zo) sz) := by
  refine Met.ofW (cc := cX0_hasRoom) (maxL := 2) (ret := (some .boolean)) (by decide) rfl ?_
  intro p e s m args below meth c s₁ Bd hml hv
  obtain ⟨rfl, hsz, hP, hK, hD0, hZ⟩ := hv
  have hx := Bd.exec
  have hb := Bd.bytes
  have hr := Bd.returns
  have hts := atoms_spec (ws := wsX0_hasRoom) Bd.pre
  have hown : s.vm.findClass RX0 = some m.cls := findClass_of_methodNamed Bd.named
  have hlocks := Bd.notSynchronized
  subst hsz
  have hD := hD0.self (sz := s.heap.size)
  generalize hAe : va_A (w0 h a b cB cJ f g (nI n9) zc zg zo) s.heap.size = A at hD hZ ⊢
  have hA : ∀ q : Nat, s.heap.size ≤ q → A q := fun q h => by rw [← hAe]; exact Or.inr h
  have hS : va_S A s.heap s.heap [] := va_S.rf
  have hP : va_P (dC, dI) vwCl (w0 h a b cB cJ f g (nI n9) zc zg zo) s.heap := hP
  have hin0 : ∀ w ∈ wsX00, w ∈ wsX0_hasRoom := by decide +kernel
  have fl13 := hts (.fieldLink RX0 13 "MessageReader" "size" "I") (by decide +kernel)
  have hl := lv_entry ([.ref h, .int (nI k9)]) (n := 2) (Nat.le_of_ble_eq_true rfl)
  rw [lg_entry_eq]
  generalize (lg_sl ([.ref h, .int (nI k9)]) ++ List.replicate (2 - (lg_sl ([.ref h, .int (nI k9)])).length) Slot.unset).toArray = ls at hl ⊢
  have hl : lv_has ls 2 [(0, .ref h), (1, .int (nI k9))] := hl
  refine lv_iload_n hx hb dX0_hasRoom_0 rfl (lv_at hl 1 rfl) ?_
  refine lv_sipush (v := 4096) hx hb dX0_hasRoom_1 (by decide) ?_
  refine lv_aload_n hx hb dX0_hasRoom_4 rfl (lv_at hl 0 rfl) ?_
  refine va_get (D := (dC, dI)) (ci := 0) (v := .int (nI n9)) (C := RX0) (T := TX0) (N := 6) hx hb hts hin0 hown hK hP 0 rfl rfl 1 (by decide) fl13 (fun _ h9 => h9) rfl dX0_hasRoom_5 ?_
  refine lv_isub hx hb dX0_hasRoom_8 ?_
  have e_1 : (4096 - (nI n9) : Int32) = nI (4096 - n9) := (show nI 4096 - nI n9 = _ from pk_sub hn9)
  rw [e_1]
  refine lv_icmp_gt (tgt := 16) hx hb dX0_hasRoom_9 (by decide) (fun c_2 => ?_) (fun c_2 => ?_)
  · skip
    refine lv_iconst (v := 0) hx hb dX0_hasRoom_16 (by decide) ?_
    exact W.zret (v := 0) hx hb hr (by first | rfl | decide) (fun t ht hW => ⟨⟨0, (), rfl, (by have q := (nI_ltI (by omega) (by omega)).mp c_2; rw [if_neg (by omega)]), by rw [ht]; exact hP, va_K.moved hW.alike hK, hD⟩, hS.F ht⟩) hS.2.2 dX0_hasRoom_17
  · skip
    refine lv_iconst (v := 1) hx hb dX0_hasRoom_12 (by decide) ?_
    refine lv_goto (tgt := 17) hx hb dX0_hasRoom_13 (by decide) ?_
    exact W.zret (v := 1) hx hb hr (by first | rfl | decide) (fun t ht hW => ⟨⟨1, (), rfl, (by have q := (not_congr (nI_ltI (by omega) (by omega))).mp c_2; rw [if_pos (by omega)]), by rw [ht]; exact hP, va_K.moved hW.alike hK, hD⟩, hS.F ht⟩) hS.2.2 dX0_hasRoom_17
def bb (x : Int64) (i : Nat) : Int32 := vp_nar .byte ((x.toUInt64 >>> ((8 * nI i).toInt64.toUInt64 &&& Int64.toUInt64 63)).toInt64.toInt32.toInt8.toInt32)
def apR (f : Nat → Int32) (n : Nat) (x : Int64) : Nat → Nat → Int32
  | 0 => f
  | i + 1 => apR (upd f n (bb x i)) (n + 1) x i
set_option maxHeartbeats 4000000 in
set_option maxRecDepth 100000 in
theorem c_X0_append (l : Launch) (dC : Nat → ClassId) (dI : Nat → Nat → Nat) (tk tw : Nat) (h a b : Nat) (cB cJ : ClassId) (sz : Nat) (f : Nat → Int32) (g : Nat → Int64) (zc : Int32) (zg : Int32) (zo : Int32) (n9 k9 : Nat) (x9 : Int64) (h9 : n9 + k9 ≤ 4096) : Met l yX0_append wsX0_append ({ frames := 0, cells := 0, slots := 0, locals := 0 }) (va_Pc [.ref h, .long x9, .int (nI k9)] (pr dC dI (t0 cB cJ) (w0 h a b cB cJ f g (nI n9) zc zg zo) sz tk tw)) (va_Qv (fun (_ : Unit) => True) (fun (_ : Unit) => po dC dI (t0 cB cJ) (va_A (w0 h a b cB cJ f g (nI n9) zc zg zo) sz) (w0 h a b cB cJ (apR f n9 x9 k9) g (nI (n9 + k9)) zc zg zo)) (va_A (w0 h a b cB cJ f g (nI n9) zc zg zo) sz)) 0 0 (va_A (w0 h a b cB cJ f g (nI n9) zc zg zo) sz) := by
  refine Met.ofW (cc := cX0_append) (maxL := 5) (ret := none) (by decide) rfl ?_
  intro p e s m args below meth c s₁ Bd hml hv
  obtain ⟨rfl, hsz, hP, hK, hD0, hZ⟩ := hv
  have hx := Bd.exec
  have hb := Bd.bytes
  have hr := Bd.returns
  have hts := atoms_spec (ws := wsX0_append) Bd.pre
  have hown : s.vm.findClass RX0 = some m.cls := findClass_of_methodNamed Bd.named
  have hlocks := Bd.notSynchronized
  subst hsz
  have hD := hD0.self (sz := s.heap.size)
  generalize hAe : va_A (w0 h a b cB cJ f g (nI n9) zc zg zo) s.heap.size = A at hD hZ ⊢
  have hA : ∀ q : Nat, s.heap.size ≤ q → A q := fun q h => by rw [← hAe]; exact Or.inr h
  have hS : va_S A s.heap s.heap [] := va_S.rf
  have hP : va_P (dC, dI) vwCl (w0 h a b cB cJ f g (nI n9) zc zg zo) s.heap := hP
  have hin0 : ∀ w ∈ wsX00, w ∈ wsX0_append := by decide +kernel
  have fl9 := hts (.fieldLink RX0 9 "MessageReader" "store" "[B") (by decide +kernel)
  have fl13 := hts (.fieldLink RX0 13 "MessageReader" "size" "I") (by decide +kernel)
  have hl := lv_entry ([.ref h, .long x9, .int (nI k9)]) (n := 5) (Nat.le_of_ble_eq_true rfl)
  rw [lg_entry_eq]
  generalize (lg_sl ([.ref h, .long x9, .int (nI k9)]) ++ List.replicate (5 - (lg_sl ([.ref h, .long x9, .int (nI k9)])).length) Slot.unset).toArray = ls at hl ⊢
  have hl : lv_has ls 5 [(0, .ref h), (1, .long x9), (3, .int (nI k9))] := hl
  refine lv_iload_n hx hb dX0_append_0 rfl (lv_at hl 2 rfl) ?_
  refine lv_iconst (v := 1) hx hb dX0_append_1 (by decide) ?_
  refine lv_isub hx hb dX0_append_2 ?_
  refine lv_istore (lv' := [(4, .int ((nI k9) - 1)), (0, .ref h), (1, .long x9), (3, .int (nI k9))]) hx hb dX0_append_3 hl (by decide) rfl (fun ls hl => ?_)
  have loop5 : ∀ (fz : Nat) (q m1 : Nat) (f1 : Nat → Int32), q < fz → m1 + q = n9 + k9 → apR f1 m1 x9 q = apR f n9 x9 k9 → ∀ (H : Heap) (locs : List Loc), va_P (dC, dI) vwCl (w0 h a b cB cJ f1 g (nI m1) zc zg zo) H → va_D A (w0 h a b cB cJ f1 g (nI m1) zc zg zo) → va_S A s.heap H locs → ∀ ls : Array Slot, lv_has ls 5 [(0, .ref h), (1, .long x9), (3, .int (nI k9)), (4, .int (nI q - 1))] → W p l e (headSpec wsX0_append ({ frames := 0, cells := 0, slots := 0, locals := 0 })).room s m ([.ref h, .long x9, .int (nI k9)]).toArray below meth c H locs 0 0 (MQ below (va_Qv (fun (_ : Unit) => True) (fun (_ : Unit) => po dC dI (t0 cB cJ) A (w0 h a b cB cJ (apR f n9 x9 k9) g (nI (n9 + k9)) zc zg zo)) A) ([.ref h, .long x9, .int (nI k9)]).toArray s 0 0 A) (F0 m 5 ls []) := by
    intro fz
    induction fz with
    | zero =>
      intro q m1 f1 hq hm hf H locs hP hD hS ls hl
      exact absurd hq (Nat.not_lt_zero _)
    | succ fz ih =>
      intro q m1 f1 hq hm hf H locs hP hD hS ls hl
      refine lv_iload hx hb dX0_append_5 (lv_at hl 3 rfl) ?_
      refine lv_if_lt (tgt := 44) hx hb dX0_append_7 (by decide) (fun c_1 => ?_) (fun c_1 => ?_)
      · skip
        have hq0 : q = 0 := Nat.eq_zero_of_not_pos (fun z => by obtain ⟨d, hc⟩ : ∃ d, q = d + 1 := ⟨q - 1, by omega⟩; rw [hc, nI_pred] at c_1; exact nI_pos (by omega) c_1)
        subst hq0
        have e1 : f1 = apR f n9 x9 k9 := hf
        have e2 : m1 = n9 + k9 := by omega
        have hP9 : va_P (dC, dI) vwCl ((fun (_ : Unit) => w0 h a b cB cJ (apR f n9 x9 k9) g (nI (n9 + k9)) zc zg zo) (())) H := by rw [← e1, ← e2]; exact hP
        have hD9 : va_D A ((fun (_ : Unit) => w0 h a b cB cJ (apR f n9 x9 k9) g (nI (n9 + k9)) zc zg zo) (())) := by rw [← e1, ← e2]; exact hD
        exact W.vret hx hb hr (fun t ht hW => ⟨⟨(), rfl, trivial, by rw [ht]; exact hP9, va_K.moved hW.alike hK, hD9⟩, hS.F ht⟩) hS.2.2 dX0_append_44
      · skip
        obtain ⟨d, hc⟩ : ∃ d, q = d + 1 := ⟨q - 1, by have z : 0 < q := Nat.pos_of_ne_zero (fun z => c_1 (by rw [z]; decide)); omega⟩
        have hcd : nI q - 1 = nI d := by rw [hc]; exact nI_pred d
        refine lv_aload_n hx hb dX0_append_10 rfl (lv_at hl 0 rfl) ?_
        refine va_get (D := (dC, dI)) (ci := 0) (v := .ref a) (C := RX0) (T := TX0) (N := 6) hx hb hts hin0 hown hK hP 0 rfl rfl 0 (by decide) fl9 (fun _ h9 => h9) rfl dX0_append_11 ?_
        refine lv_aload_n hx hb dX0_append_14 rfl (lv_at hl 0 rfl) ?_
        refine va_get (D := (dC, dI)) (ci := 0) (v := .int (nI m1)) (C := RX0) (T := TX0) (N := 6) hx hb hts hin0 hown hK hP 0 rfl rfl 1 (by decide) fl13 (fun _ h9 => h9) rfl dX0_append_15 ?_
        refine lv_lload_n hx hb dX0_append_18 rfl (lv_at hl 1 rfl) ?_
        refine lv_bipush (v := 8) hx hb dX0_append_19 (by decide) ?_
        refine lv_iload hx hb dX0_append_21 (lv_at hl 3 rfl) ?_
        refine lv_imul hx hb dX0_append_23 ?_
        have e_2 : (8 * (nI q - 1) : Int32) = 8 * nI d := by rw [hcd]
        rw [e_2]
        refine lv_lushr hx hb dX0_append_24 rfl ?_
        refine lv_l2i hx hb dX0_append_25 rfl ?_
        refine lv_i2b hx hb dX0_append_26 rfl ?_
        refine va_bast hx hb hK hP hD hS 1 0 rfl rfl (vp_in_nI (by omega) (by decide)) dX0_append_27 (fun H locs hP hD hS => ?_)
        have hP : va_P (dC, dI) vwCl (w0 h a b cB cJ (upd f1 (nI m1).toNatClampNeg (vp_nar .byte ((((x9.toUInt64 >>> ((8 * nI d).toInt64.toUInt64 &&& Int64.toUInt64 63)).toInt64).toInt32).toInt8.toInt32))) g (nI m1) zc zg zo) H := hP
        have hD : va_D A (w0 h a b cB cJ (upd f1 (nI m1).toNatClampNeg (vp_nar .byte ((((x9.toUInt64 >>> ((8 * nI d).toInt64.toUInt64 &&& Int64.toUInt64 63)).toInt64).toInt32).toInt8.toInt32))) g (nI m1) zc zg zo) := hD
        refine lv_aload_n hx hb dX0_append_28 rfl (lv_at hl 0 rfl) ?_
        refine lv_dup hx hb dX0_append_29 rfl ?_
        refine va_get (D := (dC, dI)) (ci := 0) (v := .int (nI m1)) (C := RX0) (T := TX0) (N := 6) hx hb hts hin0 hown hK hP 0 rfl rfl 1 (by decide) fl13 (fun _ h9 => h9) rfl dX0_append_30 ?_
        refine lv_iconst (v := 1) hx hb dX0_append_33 (by decide) ?_
        refine lv_iadd hx hb dX0_append_34 ?_
        have e_3 : ((nI m1) + 1 : Int32) = nI (m1 + 1) := nI_1 m1
        rw [e_3]
        refine va_put (D := (dC, dI)) (ci := 0) (v := .int (nI (m1 + 1))) (ty := .int) (C := RX0) (T := TX0) (N := 6) hx hb hts hin0 tyX0 tyX0_ok nmX0 hown hK hP hD hS 0 rfl rfl 1 (by decide) fl13 (fun _ h9 => h9) rfl (by decide +kernel) rfl rfl (Nat.le_of_ble_eq_true rfl) dX0_append_35 (fun H locs hP hD hS => ?_)
        have hP : va_P (dC, dI) vwCl (w0 h a b cB cJ (upd f1 (nI m1).toNatClampNeg (vp_nar .byte ((((x9.toUInt64 >>> ((8 * nI d).toInt64.toUInt64 &&& Int64.toUInt64 63)).toInt64).toInt32).toInt8.toInt32))) g (nI (m1 + 1)) zc zg zo) H := hP
        have hD : va_D A (w0 h a b cB cJ (upd f1 (nI m1).toNatClampNeg (vp_nar .byte ((((x9.toUInt64 >>> ((8 * nI d).toInt64.toUInt64 &&& Int64.toUInt64 63)).toInt64).toInt32).toInt8.toInt32))) g (nI (m1 + 1)) zc zg zo) := hD
        refine lv_iinc (v := nI d - 1) (lv' := [(4, .int (nI d - 1)), (0, .ref h), (1, .long x9), (3, .int (nI k9))]) hx hb dX0_append_38 hl (k := 3) rfl (by rw [hcd, Int32.sub_eq_add_neg]; rfl) (by decide) rfl (fun ls hl => ?_)
        refine lv_goto (tgt := 5) hx hb dX0_append_41 (by decide) ?_
        exact ih d (m1 + 1) _ (by omega) (by omega) (by rw [nI_clamp (by omega)]; rw [hc] at hf; exact hf) _ _ hP hD hS ls (lv_sub hl [1, 2, 3, 0] rfl)
  exact loop5 (k9 + 1) k9 n9 f (by omega) rfl rfl _ _ hP hD hS ls (lv_sub hl [1, 2, 3, 0] rfl)
set_option maxHeartbeats 4000000 in
set_option maxRecDepth 100000 in
theorem c_X0_consume (l : Launch) (dC : Nat → ClassId) (dI : Nat → Nat → Nat) (tk tw : Nat) (h a b : Nat) (cB cJ : ClassId) (sz : Nat) (f : Nat → Int32) (g : Nat → Int64) (zs : Int32) (zc : Int32) (zg : Int32) (zo : Int32) (a9 : Nat) (h9 : a9 + 1 + wd (bY f a9) ≤ 4096) : Met l yX0_consume wsX0_consume ({ frames := 5, cells := 0, slots := 0, locals := 113 }) (va_Pc [.ref h, .int (nI a9)] (pr dC dI (t0 cB cJ) (w0 h a b cB cJ f g zs zc zg zo) sz tk tw)) (va_Qv (fun (_ : Unit) => True) (fun (_ : Unit) => po dC dI (t0 cB cJ) (va_A (w0 h a b cB cJ f g zs zc zg zo) sz) (w0 h a b cB cJ f g zs (nI a9 + nI (hd (bY f a9)) + pl (bY f) a9) (nI a9) zo)) (va_A (w0 h a b cB cJ f g zs zc zg zo) sz)) 0 0 (va_A (w0 h a b cB cJ f g zs zc zg zo) sz) := by
  refine Met.ofW (cc := cX0_consume) (maxL := 2) (ret := none) (by decide) rfl ?_
  intro p e s m args below meth c s₁ Bd hml hv
  obtain ⟨rfl, hsz, hP, hK, hD0, hZ⟩ := hv
  have hx := Bd.exec
  have hb := Bd.bytes
  have hr := Bd.returns
  have hts := atoms_spec (ws := wsX0_consume) Bd.pre
  have hown : s.vm.findClass RX0 = some m.cls := findClass_of_methodNamed Bd.named
  have hlocks := Bd.notSynchronized
  subst hsz
  have hD := hD0.self (sz := s.heap.size)
  generalize hAe : va_A (w0 h a b cB cJ f g zs zc zg zo) s.heap.size = A at hD hZ ⊢
  have hA : ∀ q : Nat, s.heap.size ≤ q → A q := fun q h => by rw [← hAe]; exact Or.inr h
  have hS : va_S A s.heap s.heap [] := va_S.rf
  have hP : va_P (dC, dI) vwCl (w0 h a b cB cJ f g zs zc zg zo) s.heap := hP
  have hin0 : ∀ w ∈ wsX00, w ∈ wsX0_consume := by decide +kernel
  have fl17 := hts (.fieldLink RX0 17 "MessageReader" "consumed" "I") (by decide +kernel)
  have fl20 := hts (.fieldLink RX0 20 "MessageReader" "given" "I") (by decide +kernel)
  have hl := lv_entry ([.ref h, .int (nI a9)]) (n := 2) (Nat.le_of_ble_eq_true rfl)
  rw [lg_entry_eq]
  generalize (lg_sl ([.ref h, .int (nI a9)]) ++ List.replicate (2 - (lg_sl ([.ref h, .int (nI a9)])).length) Slot.unset).toArray = ls at hl ⊢
  have hl : lv_has ls 2 [(0, .ref h), (1, .int (nI a9))] := hl
  refine lv_aload_n hx hb dX0_consume_0 rfl (lv_at hl 0 rfl) ?_
  refine lv_iload_n hx hb dX0_consume_1 rfl (lv_at hl 1 rfl) ?_
  refine va_put (D := (dC, dI)) (ci := 0) (v := .int (nI a9)) (ty := .int) (C := RX0) (T := TX0) (N := 6) hx hb hts hin0 tyX0 tyX0_ok nmX0 hown hK hP hD hS 0 rfl rfl 3 (by decide) fl20 (fun _ h9 => h9) rfl (by decide +kernel) rfl rfl (Nat.le_of_ble_eq_true rfl) dX0_consume_2 (fun H locs hP hD hS => ?_)
  have hP : va_P (dC, dI) vwCl (w0 h a b cB cJ f g zs zc (nI a9) zo) H := hP
  have hD : va_D A (w0 h a b cB cJ f g zs zc (nI a9) zo) := hD
  refine lv_aload_n hx hb dX0_consume_5 rfl (lv_at hl 0 rfl) ?_
  refine lv_aload_n hx hb dX0_consume_6 rfl (lv_at hl 0 rfl) ?_
  refine lv_iload_n hx hb dX0_consume_7 rfl (lv_at hl 1 rfl) ?_
  refine gvi (As := [.int (nI a9)]) (rest := [.ref h]) ⟨hx, hb, hml, hown, hts⟩ (c_X0_endAt l dC dI tk tw h a b cB cJ _ f g zs zc (nI a9) zo a9 h9) (cwV 1 hts gX0_consume_X0_endAt rfl rfl rfl (by decide +kernel) ⟨Nat.le_of_ble_eq_true rfl, Nat.le_of_ble_eq_true rfl⟩) hK hP hD hS hA hZ (q0 := 0) (ci := 0) rfl rfl rfl rfl hl.1 rfl (Nat.le_of_ble_eq_true rfl) dX0_consume_8 ⟨Nat.le_of_ble_eq_true rfl, Nat.le_of_ble_eq_true rfl⟩ (fun r_2 u_3 H locs hw_1 hP hD hS => ?_)
  obtain rfl : r_2 = nI a9 + nI (hd (bY f a9)) + pl (bY f) a9 := hw_1
  refine va_put (D := (dC, dI)) (ci := 0) (v := .int (nI a9 + nI (hd (bY f a9)) + pl (bY f) a9)) (ty := .int) (C := RX0) (T := TX0) (N := 6) hx hb hts hin0 tyX0 tyX0_ok nmX0 hown hK hP hD hS 0 rfl rfl 2 (by decide) fl17 (fun _ h9 => h9) rfl (by decide +kernel) rfl rfl (Nat.le_of_ble_eq_true rfl) dX0_consume_11 (fun H locs hP hD hS => ?_)
  have hP : va_P (dC, dI) vwCl (w0 h a b cB cJ f g zs (nI a9 + nI (hd (bY f a9)) + pl (bY f) a9) (nI a9) zo) H := hP
  have hD : va_D A (w0 h a b cB cJ f g zs (nI a9 + nI (hd (bY f a9)) + pl (bY f) a9) (nI a9) zo) := hD
  have hP9 : va_P (dC, dI) vwCl ((fun (_ : Unit) => w0 h a b cB cJ f g zs (nI a9 + nI (hd (bY f a9)) + pl (bY f) a9) (nI a9) zo) (())) H := hP
  have hD9 : va_D A ((fun (_ : Unit) => w0 h a b cB cJ f g zs (nI a9 + nI (hd (bY f a9)) + pl (bY f) a9) (nI a9) zo) (())) := hD
  exact W.vret hx hb hr (fun t ht hW => ⟨⟨(), rfl, trivial, by rw [ht]; exact hP9, va_K.moved hW.alike hK, hD9⟩, hS.F ht⟩) hS.2.2 dX0_consume_14
def cc1 (g : Nat → Int64) (k : Nat) : Nat → Int64 := if k = 0 then g else vp_updL g (k - 1) (g (k - 1) - 1)
theorem cc1_z {g : Nat → Int64} {k : Nat} (h : k = 0) : cc1 g k = g := if_pos h
theorem cc1_p {g : Nat → Int64} {k : Nat} (h : 0 < k) : cc1 g k = vp_updL g (k - 1) (g (k - 1) - 1) := if_neg (by omega)
def og (g : Nat → Int64) (k : Nat) (x : Int64) : Nat → Int64 := if 0 < x ∧ k < 100 then vp_updL g k x else g
def ok (k : Nat) (x : Int64) : Nat := if 0 < x ∧ k < 100 then k + 1 else k
theorem og_n {g : Nat → Int64} {k : Nat} {x : Int64} (h : ¬ (0 < x ∧ k < 100)) : og g k x = g := if_neg h
theorem og_p {g : Nat → Int64} {k : Nat} {x : Int64} (h : 0 < x ∧ k < 100) : og g k x = vp_updL g k x := if_pos h
theorem ok_n {k : Nat} {x : Int64} (h : ¬ (0 < x ∧ k < 100)) : ok k x = k := if_neg h
theorem ok_p {k : Nat} {x : Int64} (h : 0 < x ∧ k < 100) : ok k x = k + 1 := if_pos h
theorem ok_le {k : Nat} {x : Int64} (h : k ≤ 100) : ok k x ≤ 100 := by unfold ok; split <;> omega
def cl (g : Nat → Int64) : Nat → Nat
  | 0 => 0
  | k + 1 => if g k = 0 then cl g k else k + 1
theorem cl_z {g : Nat → Int64} {k : Nat} (h : 0 < k) (h2 : g (k - 1) = 0) : cl g k = cl g (k - 1) := by
  obtain ⟨d, rfl⟩ : ∃ d, k = d + 1 := ⟨k - 1, by omega⟩
  simp only [Nat.add_sub_cancel] at h2 ⊢
  simp [cl, h2]
theorem cl_e {g : Nat → Int64} {k : Nat} (h : k = 0 ∨ ¬ g (k - 1) = 0) : cl g k = k := by
  cases k with
  | zero => rfl
  | succ d =>
    rcases h with h | h
    · omega
    · simp only [Nat.add_sub_cancel] at h
      simp [cl, h]
theorem cl_le {g : Nat → Int64} {k : Nat} : cl g k ≤ k := by
  induction k with
  | zero => exact Nat.le_refl 0
  | succ d ih =>
    simp only [cl]
    split
    · omega
    · exact Nat.le_refl _
set_option maxHeartbeats 4000000 in
set_option maxRecDepth 100000 in
theorem c_X0_countChild (l : Launch) (dC : Nat → ClassId) (dI : Nat → Nat → Nat) (tk tw : Nat) (h a b : Nat) (cB cJ : ClassId) (sz : Nat) (f : Nat → Int32) (g : Nat → Int64) (zs : Int32) (zc : Int32) (zg : Int32) (k9 : Nat) (hk9 : k9 ≤ 100) : Met l yX0_countChild wsX0_countChild ({ frames := 0, cells := 0, slots := 0, locals := 0 }) (va_Pc [.ref h] (pr dC dI (t0 cB cJ) (w0 h a b cB cJ f g zs zc zg (nI k9)) sz tk tw)) (va_Qv (fun (_ : Unit) => True) (fun (_ : Unit) => po dC dI (t0 cB cJ) (va_A (w0 h a b cB cJ f g zs zc zg (nI k9)) sz) (w0 h a b cB cJ f (cc1 g k9) zs zc zg (nI k9))) (va_A (w0 h a b cB cJ f g zs zc zg (nI k9)) sz)) 0 0 (va_A (w0 h a b cB cJ f g zs zc zg (nI k9)) sz) := by
  refine Met.ofW (cc := cX0_countChild) (maxL := 1) (ret := none) (by decide) rfl ?_
  intro p e s m args below meth c s₁ Bd hml hv
  obtain ⟨rfl, hsz, hP, hK, hD0, hZ⟩ := hv
  have hx := Bd.exec
  have hb := Bd.bytes
  have hr := Bd.returns
  have hts := atoms_spec (ws := wsX0_countChild) Bd.pre
  have hown : s.vm.findClass RX0 = some m.cls := findClass_of_methodNamed Bd.named
  have hlocks := Bd.notSynchronized
  subst hsz
  have hD := hD0.self (sz := s.heap.size)
  generalize hAe : va_A (w0 h a b cB cJ f g zs zc zg (nI k9)) s.heap.size = A at hD hZ ⊢
  have hA : ∀ q : Nat, s.heap.size ≤ q → A q := fun q h => by rw [← hAe]; exact Or.inr h
  have hS : va_S A s.heap s.heap [] := va_S.rf
  have hP : va_P (dC, dI) vwCl (w0 h a b cB cJ f g zs zc zg (nI k9)) s.heap := hP
  have hin0 : ∀ w ∈ wsX00, w ∈ wsX0_countChild := by decide +kernel
  have fl23 := hts (.fieldLink RX0 23 "MessageReader" "childrenLeft" "[J") (by decide +kernel)
  have fl27 := hts (.fieldLink RX0 27 "MessageReader" "open" "I") (by decide +kernel)
  have hl := lv_entry ([.ref h]) (n := 1) (Nat.le_of_ble_eq_true rfl)
  rw [lg_entry_eq]
  generalize (lg_sl ([.ref h]) ++ List.replicate (1 - (lg_sl ([.ref h])).length) Slot.unset).toArray = ls at hl ⊢
  have hl : lv_has ls 1 [(0, .ref h)] := hl
  refine lv_aload_n hx hb dX0_countChild_0 rfl (lv_at hl 0 rfl) ?_
  refine va_get (D := (dC, dI)) (ci := 0) (v := .int (nI k9)) (C := RX0) (T := TX0) (N := 6) hx hb hts hin0 hown hK hP 0 rfl rfl 5 (by decide) fl27 (fun _ h9 => h9) rfl dX0_countChild_1 ?_
  refine lv_if_le (tgt := 22) hx hb dX0_countChild_4 (by decide) (fun c_1 => ?_) (fun c_1 => ?_)
  · skip
    have hP9 : va_P (dC, dI) vwCl ((fun (_ : Unit) => w0 h a b cB cJ f (cc1 g k9) zs zc zg (nI k9)) (())) s.heap := by rw [show cc1 g k9 = g from cc1_z (Nat.eq_zero_of_not_pos (fun z => nI_nle z (by omega) c_1))]; exact hP
    have hD9 : va_D A ((fun (_ : Unit) => w0 h a b cB cJ f (cc1 g k9) zs zc zg (nI k9)) (())) := by rw [show cc1 g k9 = g from cc1_z (Nat.eq_zero_of_not_pos (fun z => nI_nle z (by omega) c_1))]; exact hD
    exact W.vret hx hb hr (fun t ht hW => ⟨⟨(), rfl, trivial, by rw [ht]; exact hP9, va_K.moved hW.alike hK, hD9⟩, hS.F ht⟩) hS.2.2 dX0_countChild_22
  · skip
    have q0 : 0 < k9 := Nat.pos_of_ne_zero (fun z => c_1 (by rw [z]; decide))
    have q1 : nI k9 - 1 = nI (k9 - 1) := pk_sub (b := 1) q0
    refine lv_aload_n hx hb dX0_countChild_7 rfl (lv_at hl 0 rfl) ?_
    refine va_get (D := (dC, dI)) (ci := 0) (v := .ref b) (C := RX0) (T := TX0) (N := 6) hx hb hts hin0 hown hK hP 0 rfl rfl 4 (by decide) fl23 (fun _ h9 => h9) rfl dX0_countChild_8 ?_
    refine lv_aload_n hx hb dX0_countChild_11 rfl (lv_at hl 0 rfl) ?_
    refine va_get (D := (dC, dI)) (ci := 0) (v := .int (nI k9)) (C := RX0) (T := TX0) (N := 6) hx hb hts hin0 hown hK hP 0 rfl rfl 5 (by decide) fl27 (fun _ h9 => h9) rfl dX0_countChild_12 ?_
    refine lv_iconst (v := 1) hx hb dX0_countChild_15 (by decide) ?_
    refine lv_isub hx hb dX0_countChild_16 ?_
    have e_2 : ((nI k9) - 1 : Int32) = nI (k9 - 1) := q1
    rw [e_2]
    refine lv_dup2_11 hx hb dX0_countChild_17 rfl rfl ?_
    refine va_lald hx hb hK hP 2 1 rfl rfl (vp_in_nI (by omega) (by decide)) dX0_countChild_18 ?_
    refine lv_lconst (v := 1) hx hb dX0_countChild_19 (by decide) ?_
    refine lv_lsub hx hb dX0_countChild_20 ?_
    refine va_last hx hb hK hP hD hS 2 1 rfl rfl (vp_in_nI (by omega) (by decide)) dX0_countChild_21 (fun H locs hP hD hS => ?_)
    have hP : va_P (dC, dI) vwCl (w0 h a b cB cJ f (vp_updL g (nI (k9 - 1)).toNatClampNeg ((g (nI (k9 - 1)).toNatClampNeg) - 1)) zs zc zg (nI k9)) H := hP
    have hD : va_D A (w0 h a b cB cJ f (vp_updL g (nI (k9 - 1)).toNatClampNeg ((g (nI (k9 - 1)).toNatClampNeg) - 1)) zs zc zg (nI k9)) := hD
    have hP9 : va_P (dC, dI) vwCl ((fun (_ : Unit) => w0 h a b cB cJ f (cc1 g k9) zs zc zg (nI k9)) (())) H := by rw [show cc1 g k9 = _ from cc1_p q0]; rw [nI_clamp (by omega)] at hP; exact hP
    have hD9 : va_D A ((fun (_ : Unit) => w0 h a b cB cJ f (cc1 g k9) zs zc zg (nI k9)) (())) := by rw [show cc1 g k9 = _ from cc1_p q0]; rw [nI_clamp (by omega)] at hD; exact hD
    exact W.vret hx hb hr (fun t ht hW => ⟨⟨(), rfl, trivial, by rw [ht]; exact hP9, va_K.moved hW.alike hK, hD9⟩, hS.F ht⟩) hS.2.2 dX0_countChild_22
set_option maxHeartbeats 4000000 in
set_option maxRecDepth 100000 in
theorem c_X0_openContainer (l : Launch) (dC : Nat → ClassId) (dI : Nat → Nat → Nat) (tk tw : Nat) (h a b : Nat) (cB cJ : ClassId) (sz : Nat) (f : Nat → Int32) (g : Nat → Int64) (zs : Int32) (zc : Int32) (zg : Int32) (x9 : Int64) (k9 : Nat) (hk9 : k9 ≤ 100) : Met l yX0_openContainer wsX0_openContainer ({ frames := 0, cells := 0, slots := 0, locals := 0 }) (va_Pc [.ref h, .long x9] (pr dC dI (t0 cB cJ) (w0 h a b cB cJ f g zs zc zg (nI k9)) sz tk tw)) (va_Qv (fun (_ : Unit) => True) (fun (_ : Unit) => po dC dI (t0 cB cJ) (va_A (w0 h a b cB cJ f g zs zc zg (nI k9)) sz) (w0 h a b cB cJ f (og g k9 x9) zs zc zg (nI (ok k9 x9)))) (va_A (w0 h a b cB cJ f g zs zc zg (nI k9)) sz)) 0 0 (va_A (w0 h a b cB cJ f g zs zc zg (nI k9)) sz) := by
  refine Met.ofW (cc := cX0_openContainer) (maxL := 3) (ret := none) (by decide) rfl ?_
  intro p e s m args below meth c s₁ Bd hml hv
  obtain ⟨rfl, hsz, hP, hK, hD0, hZ⟩ := hv
  have hx := Bd.exec
  have hb := Bd.bytes
  have hr := Bd.returns
  have hts := atoms_spec (ws := wsX0_openContainer) Bd.pre
  have hown : s.vm.findClass RX0 = some m.cls := findClass_of_methodNamed Bd.named
  have hlocks := Bd.notSynchronized
  subst hsz
  have hD := hD0.self (sz := s.heap.size)
  generalize hAe : va_A (w0 h a b cB cJ f g zs zc zg (nI k9)) s.heap.size = A at hD hZ ⊢
  have hA : ∀ q : Nat, s.heap.size ≤ q → A q := fun q h => by rw [← hAe]; exact Or.inr h
  have hS : va_S A s.heap s.heap [] := va_S.rf
  have hP : va_P (dC, dI) vwCl (w0 h a b cB cJ f g zs zc zg (nI k9)) s.heap := hP
  have hin0 : ∀ w ∈ wsX00, w ∈ wsX0_openContainer := by decide +kernel
  have fl23 := hts (.fieldLink RX0 23 "MessageReader" "childrenLeft" "[J") (by decide +kernel)
  have fl27 := hts (.fieldLink RX0 27 "MessageReader" "open" "I") (by decide +kernel)
  have hl := lv_entry ([.ref h, .long x9]) (n := 3) (Nat.le_of_ble_eq_true rfl)
  rw [lg_entry_eq]
  generalize (lg_sl ([.ref h, .long x9]) ++ List.replicate (3 - (lg_sl ([.ref h, .long x9])).length) Slot.unset).toArray = ls at hl ⊢
  have hl : lv_has ls 3 [(0, .ref h), (1, .long x9)] := hl
  refine lv_lload_n hx hb dX0_openContainer_0 rfl (lv_at hl 1 rfl) ?_
  refine lv_lconst (v := 0) hx hb dX0_openContainer_1 (by decide) ?_
  refine W.lcmp hx hb dX0_openContainer_2 ?_
  refine lv_if_le (tgt := 35) hx hb dX0_openContainer_3 (by decide) (fun c_1 => ?_) (fun c_1 => ?_)
  · skip
    have c_1 := (lg_cmp_le x9 (0 : Int64)).mp c_1
    have hP9 : va_P (dC, dI) vwCl ((fun (_ : Unit) => w0 h a b cB cJ f (og g k9 x9) zs zc zg (nI (ok k9 x9))) (())) s.heap := by have q : ¬ (0 < x9 ∧ k9 < 100) := fun z => Int64.not_lt.mpr c_1 z.1; rw [og_n q, ok_n q]; exact hP
    have hD9 : va_D A ((fun (_ : Unit) => w0 h a b cB cJ f (og g k9 x9) zs zc zg (nI (ok k9 x9))) (())) := by have q : ¬ (0 < x9 ∧ k9 < 100) := fun z => Int64.not_lt.mpr c_1 z.1; rw [og_n q, ok_n q]; exact hD
    exact W.vret hx hb hr (fun t ht hW => ⟨⟨(), rfl, trivial, by rw [ht]; exact hP9, va_K.moved hW.alike hK, hD9⟩, hS.F ht⟩) hS.2.2 dX0_openContainer_35
  · skip
    have c_1 := (not_congr (lg_cmp_le x9 (0 : Int64))).mp c_1
    refine lv_aload_n hx hb dX0_openContainer_6 rfl (lv_at hl 0 rfl) ?_
    refine va_get (D := (dC, dI)) (ci := 0) (v := .int (nI k9)) (C := RX0) (T := TX0) (N := 6) hx hb hts hin0 hown hK hP 0 rfl rfl 5 (by decide) fl27 (fun _ h9 => h9) rfl dX0_openContainer_7 ?_
    refine lv_bipush (v := 100) hx hb dX0_openContainer_10 (by decide) ?_
    refine lv_icmp_ge (tgt := 35) hx hb dX0_openContainer_12 (by decide) (fun c_2 => ?_) (fun c_2 => ?_)
    · skip
      have hP9 : va_P (dC, dI) vwCl ((fun (_ : Unit) => w0 h a b cB cJ f (og g k9 x9) zs zc zg (nI (ok k9 x9))) (())) s.heap := by have q : ¬ (0 < x9 ∧ k9 < 100) := (fun z => by have q := (nI_leI (a := 100) (b := k9) (by decide) (by omega)).mp c_2; omega); rw [og_n q, ok_n q]; exact hP
      have hD9 : va_D A ((fun (_ : Unit) => w0 h a b cB cJ f (og g k9 x9) zs zc zg (nI (ok k9 x9))) (())) := by have q : ¬ (0 < x9 ∧ k9 < 100) := (fun z => by have q := (nI_leI (a := 100) (b := k9) (by decide) (by omega)).mp c_2; omega); rw [og_n q, ok_n q]; exact hD
      exact W.vret hx hb hr (fun t ht hW => ⟨⟨(), rfl, trivial, by rw [ht]; exact hP9, va_K.moved hW.alike hK, hD9⟩, hS.F ht⟩) hS.2.2 dX0_openContainer_35
    · skip
      have q0 : k9 < 100 := by have q := (not_congr (nI_leI (a := 100) (b := k9) (by decide) (by omega))).mp c_2; omega
      refine lv_aload_n hx hb dX0_openContainer_15 rfl (lv_at hl 0 rfl) ?_
      refine va_get (D := (dC, dI)) (ci := 0) (v := .ref b) (C := RX0) (T := TX0) (N := 6) hx hb hts hin0 hown hK hP 0 rfl rfl 4 (by decide) fl23 (fun _ h9 => h9) rfl dX0_openContainer_16 ?_
      refine lv_aload_n hx hb dX0_openContainer_19 rfl (lv_at hl 0 rfl) ?_
      refine va_get (D := (dC, dI)) (ci := 0) (v := .int (nI k9)) (C := RX0) (T := TX0) (N := 6) hx hb hts hin0 hown hK hP 0 rfl rfl 5 (by decide) fl27 (fun _ h9 => h9) rfl dX0_openContainer_20 ?_
      refine lv_lload_n hx hb dX0_openContainer_23 rfl (lv_at hl 1 rfl) ?_
      refine va_last hx hb hK hP hD hS 2 1 rfl rfl (vp_in_nI q0 (by decide)) dX0_openContainer_24 (fun H locs hP hD hS => ?_)
      have hP : va_P (dC, dI) vwCl (w0 h a b cB cJ f (vp_updL g (nI k9).toNatClampNeg x9) zs zc zg (nI k9)) H := hP
      have hD : va_D A (w0 h a b cB cJ f (vp_updL g (nI k9).toNatClampNeg x9) zs zc zg (nI k9)) := hD
      refine lv_aload_n hx hb dX0_openContainer_25 rfl (lv_at hl 0 rfl) ?_
      refine lv_dup hx hb dX0_openContainer_26 rfl ?_
      refine va_get (D := (dC, dI)) (ci := 0) (v := .int (nI k9)) (C := RX0) (T := TX0) (N := 6) hx hb hts hin0 hown hK hP 0 rfl rfl 5 (by decide) fl27 (fun _ h9 => h9) rfl dX0_openContainer_27 ?_
      refine lv_iconst (v := 1) hx hb dX0_openContainer_30 (by decide) ?_
      refine lv_iadd hx hb dX0_openContainer_31 ?_
      have e_3 : ((nI k9) + 1 : Int32) = nI (k9 + 1) := nI_1 k9
      rw [e_3]
      refine va_put (D := (dC, dI)) (ci := 0) (v := .int (nI (k9 + 1))) (ty := .int) (C := RX0) (T := TX0) (N := 6) hx hb hts hin0 tyX0 tyX0_ok nmX0 hown hK hP hD hS 0 rfl rfl 5 (by decide) fl27 (fun _ h9 => h9) rfl (by decide +kernel) rfl rfl (Nat.le_of_ble_eq_true rfl) dX0_openContainer_32 (fun H locs hP hD hS => ?_)
      have hP : va_P (dC, dI) vwCl (w0 h a b cB cJ f (vp_updL g (nI k9).toNatClampNeg x9) zs zc zg (nI (k9 + 1))) H := hP
      have hD : va_D A (w0 h a b cB cJ f (vp_updL g (nI k9).toNatClampNeg x9) zs zc zg (nI (k9 + 1))) := hD
      have hP9 : va_P (dC, dI) vwCl ((fun (_ : Unit) => w0 h a b cB cJ f (og g k9 x9) zs zc zg (nI (ok k9 x9))) (())) H := by have q : 0 < x9 ∧ k9 < 100 := ⟨Int64.not_le.mp c_1, q0⟩; rw [og_p q, ok_p q]; rw [nI_clamp (by omega)] at hP; exact hP
      have hD9 : va_D A ((fun (_ : Unit) => w0 h a b cB cJ f (og g k9 x9) zs zc zg (nI (ok k9 x9))) (())) := by have q : 0 < x9 ∧ k9 < 100 := ⟨Int64.not_le.mp c_1, q0⟩; rw [og_p q, ok_p q]; rw [nI_clamp (by omega)] at hD; exact hD
      exact W.vret hx hb hr (fun t ht hW => ⟨⟨(), rfl, trivial, by rw [ht]; exact hP9, va_K.moved hW.alike hK, hD9⟩, hS.F ht⟩) hS.2.2 dX0_openContainer_35
set_option maxHeartbeats 4000000 in
set_option maxRecDepth 100000 in
theorem c_X0_closeFinished (l : Launch) (dC : Nat → ClassId) (dI : Nat → Nat → Nat) (tk tw : Nat) (h a b : Nat) (cB cJ : ClassId) (sz : Nat) (f : Nat → Int32) (g : Nat → Int64) (zs : Int32) (zc : Int32) (zg : Int32) (k9 : Nat) (hk9 : k9 ≤ 100) : Met l yX0_closeFinished wsX0_closeFinished ({ frames := 0, cells := 0, slots := 0, locals := 0 }) (va_Pc [.ref h] (pr dC dI (t0 cB cJ) (w0 h a b cB cJ f g zs zc zg (nI k9)) sz tk tw)) (va_Qv (fun (_ : Unit) => True) (fun (_ : Unit) => po dC dI (t0 cB cJ) (va_A (w0 h a b cB cJ f g zs zc zg (nI k9)) sz) (w0 h a b cB cJ f g zs zc zg (nI (cl g k9)))) (va_A (w0 h a b cB cJ f g zs zc zg (nI k9)) sz)) 0 0 (va_A (w0 h a b cB cJ f g zs zc zg (nI k9)) sz) := by
  refine Met.ofW (cc := cX0_closeFinished) (maxL := 1) (ret := none) (by decide) rfl ?_
  intro p e s m args below meth c s₁ Bd hml hv
  obtain ⟨rfl, hsz, hP, hK, hD0, hZ⟩ := hv
  have hx := Bd.exec
  have hb := Bd.bytes
  have hr := Bd.returns
  have hts := atoms_spec (ws := wsX0_closeFinished) Bd.pre
  have hown : s.vm.findClass RX0 = some m.cls := findClass_of_methodNamed Bd.named
  have hlocks := Bd.notSynchronized
  subst hsz
  have hD := hD0.self (sz := s.heap.size)
  generalize hAe : va_A (w0 h a b cB cJ f g zs zc zg (nI k9)) s.heap.size = A at hD hZ ⊢
  have hA : ∀ q : Nat, s.heap.size ≤ q → A q := fun q h => by rw [← hAe]; exact Or.inr h
  have hS : va_S A s.heap s.heap [] := va_S.rf
  have hP : va_P (dC, dI) vwCl (w0 h a b cB cJ f g zs zc zg (nI k9)) s.heap := hP
  have hin0 : ∀ w ∈ wsX00, w ∈ wsX0_closeFinished := by decide +kernel
  have fl23 := hts (.fieldLink RX0 23 "MessageReader" "childrenLeft" "[J") (by decide +kernel)
  have fl27 := hts (.fieldLink RX0 27 "MessageReader" "open" "I") (by decide +kernel)
  have hl := lv_entry ([.ref h]) (n := 1) (Nat.le_of_ble_eq_true rfl)
  rw [lg_entry_eq]
  generalize (lg_sl ([.ref h]) ++ List.replicate (1 - (lg_sl ([.ref h])).length) Slot.unset).toArray = ls at hl ⊢
  have hl : lv_has ls 1 [(0, .ref h)] := hl
  have loop0 : ∀ (fz : Nat) (k : Nat), k < fz → k ≤ 100 → cl g k = cl g k9 → ∀ (H : Heap) (locs : List Loc), va_P (dC, dI) vwCl (w0 h a b cB cJ f g zs zc zg (nI k)) H → va_D A (w0 h a b cB cJ f g zs zc zg (nI k)) → va_S A s.heap H locs → ∀ ls : Array Slot, lv_has ls 1 [(0, .ref h)] → W p l e (headSpec wsX0_closeFinished ({ frames := 0, cells := 0, slots := 0, locals := 0 })).room s m ([.ref h]).toArray below meth c H locs 0 0 (MQ below (va_Qv (fun (_ : Unit) => True) (fun (_ : Unit) => po dC dI (t0 cB cJ) A (w0 h a b cB cJ f g zs zc zg (nI (cl g k9)))) A) ([.ref h]).toArray s 0 0 A) (F0 m 0 ls []) := by
    intro fz
    induction fz with
    | zero =>
      intro k hk hk1 hcl H locs hP hD hS ls hl
      exact absurd hk (Nat.not_lt_zero _)
    | succ fz ih =>
      intro k hk hk1 hcl H locs hP hD hS ls hl
      refine lv_aload_n hx hb dX0_closeFinished_0 rfl (lv_at hl 0 rfl) ?_
      refine va_get (D := (dC, dI)) (ci := 0) (v := .int (nI k)) (C := RX0) (T := TX0) (N := 6) hx hb hts hin0 hown hK hP 0 rfl rfl 5 (by decide) fl27 (fun _ h9 => h9) rfl dX0_closeFinished_1 ?_
      refine lv_if_le (tgt := 36) hx hb dX0_closeFinished_4 (by decide) (fun c_1 => ?_) (fun c_1 => ?_)
      · skip
        have hP9 : va_P (dC, dI) vwCl ((fun (_ : Unit) => w0 h a b cB cJ f g zs zc zg (nI (cl g k9))) (())) H := by rw [← hcl, show cl g k = k from cl_e (Or.inl (Nat.eq_zero_of_not_pos (fun z => nI_nle z (by omega) c_1)))]; exact hP
        have hD9 : va_D A ((fun (_ : Unit) => w0 h a b cB cJ f g zs zc zg (nI (cl g k9))) (())) := by rw [← hcl, show cl g k = k from cl_e (Or.inl (Nat.eq_zero_of_not_pos (fun z => nI_nle z (by omega) c_1)))]; exact hD
        exact W.vret hx hb hr (fun t ht hW => ⟨⟨(), rfl, trivial, by rw [ht]; exact hP9, va_K.moved hW.alike hK, hD9⟩, hS.F ht⟩) hS.2.2 dX0_closeFinished_36
      · skip
        have q0 : 0 < k := Nat.pos_of_ne_zero (fun z => c_1 (by rw [z]; decide))
        have q1 : nI k - 1 = nI (k - 1) := pk_sub (b := 1) q0
        refine lv_aload_n hx hb dX0_closeFinished_7 rfl (lv_at hl 0 rfl) ?_
        refine va_get (D := (dC, dI)) (ci := 0) (v := .ref b) (C := RX0) (T := TX0) (N := 6) hx hb hts hin0 hown hK hP 0 rfl rfl 4 (by decide) fl23 (fun _ h9 => h9) rfl dX0_closeFinished_8 ?_
        refine lv_aload_n hx hb dX0_closeFinished_11 rfl (lv_at hl 0 rfl) ?_
        refine va_get (D := (dC, dI)) (ci := 0) (v := .int (nI k)) (C := RX0) (T := TX0) (N := 6) hx hb hts hin0 hown hK hP 0 rfl rfl 5 (by decide) fl27 (fun _ h9 => h9) rfl dX0_closeFinished_12 ?_
        refine lv_iconst (v := 1) hx hb dX0_closeFinished_15 (by decide) ?_
        refine lv_isub hx hb dX0_closeFinished_16 ?_
        have e_2 : ((nI k) - 1 : Int32) = nI (k - 1) := q1
        rw [e_2]
        refine va_lald hx hb hK hP 2 1 rfl rfl (vp_in_nI (by omega) (by decide)) dX0_closeFinished_17 ?_
        refine lv_lconst (v := 0) hx hb dX0_closeFinished_18 (by decide) ?_
        refine W.lcmp hx hb dX0_closeFinished_19 ?_
        refine lv_if_ne (tgt := 36) hx hb dX0_closeFinished_20 (by decide) (fun c_3 => ?_) (fun c_3 => ?_)
        · skip
          have c_3 := (not_congr (lg_cmp_eq (g (nI (k - 1)).toNatClampNeg) (0 : Int64))).mp c_3
          have hP9 : va_P (dC, dI) vwCl ((fun (_ : Unit) => w0 h a b cB cJ f g zs zc zg (nI (cl g k9))) (())) H := by rw [← hcl, show cl g k = k from cl_e (Or.inr (by rw [nI_clamp (by omega)] at c_3; exact c_3))]; exact hP
          have hD9 : va_D A ((fun (_ : Unit) => w0 h a b cB cJ f g zs zc zg (nI (cl g k9))) (())) := by rw [← hcl, show cl g k = k from cl_e (Or.inr (by rw [nI_clamp (by omega)] at c_3; exact c_3))]; exact hD
          exact W.vret hx hb hr (fun t ht hW => ⟨⟨(), rfl, trivial, by rw [ht]; exact hP9, va_K.moved hW.alike hK, hD9⟩, hS.F ht⟩) hS.2.2 dX0_closeFinished_36
        · skip
          have c_3 := (lg_cmp_eq (g (nI (k - 1)).toNatClampNeg) (0 : Int64)).mp c_3
          refine lv_aload_n hx hb dX0_closeFinished_23 rfl (lv_at hl 0 rfl) ?_
          refine lv_dup hx hb dX0_closeFinished_24 rfl ?_
          refine va_get (D := (dC, dI)) (ci := 0) (v := .int (nI k)) (C := RX0) (T := TX0) (N := 6) hx hb hts hin0 hown hK hP 0 rfl rfl 5 (by decide) fl27 (fun _ h9 => h9) rfl dX0_closeFinished_25 ?_
          refine lv_iconst (v := 1) hx hb dX0_closeFinished_28 (by decide) ?_
          refine lv_isub hx hb dX0_closeFinished_29 ?_
          have e_4 : ((nI k) - 1 : Int32) = nI (k - 1) := q1
          rw [e_4]
          refine va_put (D := (dC, dI)) (ci := 0) (v := .int (nI (k - 1))) (ty := .int) (C := RX0) (T := TX0) (N := 6) hx hb hts hin0 tyX0 tyX0_ok nmX0 hown hK hP hD hS 0 rfl rfl 5 (by decide) fl27 (fun _ h9 => h9) rfl (by decide +kernel) rfl rfl (Nat.le_of_ble_eq_true rfl) dX0_closeFinished_30 (fun H locs hP hD hS => ?_)
          have hP : va_P (dC, dI) vwCl (w0 h a b cB cJ f g zs zc zg (nI (k - 1))) H := hP
          have hD : va_D A (w0 h a b cB cJ f g zs zc zg (nI (k - 1))) := hD
          refine lv_goto (tgt := 0) hx hb dX0_closeFinished_33 (by decide) ?_
          exact ih (k - 1) (by omega) (by omega) (by rw [← hcl]; exact (cl_z q0 (by rw [nI_clamp (by omega)] at c_3; exact c_3)).symm) _ _ hP hD hS ls (lv_sub hl [0] rfl)
  exact loop0 (k9 + 1) k9 (by omega) hk9 rfl _ _ hP hD hS ls (lv_sub hl [0] rfl)
end
section
set_option maxHeartbeats 4000000 in
set_option maxRecDepth 100000 in
theorem c_X0_lastHeadFrom (l : Launch) (dC : Nat → ClassId) (dI : Nat → Nat → Nat) (tk tw : Nat) (h a b : Nat) (cB cJ : ClassId) (sz : Nat) (f : Nat → Int32) (g : Nat → Int64) (zc : Int32) (zg : Int32) (zo : Int32) (n8 a9 : Nat) (hn8 : n8 ≤ 4096) (h9 : a9 ≤ 4096) : Met l yX0_lastHeadFrom wsX0_lastHeadFrom ({ frames := 5, cells := 0, slots := 0, locals := 116 }) (va_Pc [.ref h, .int (nI a9)] (pr dC dI (t0 cB cJ) (w0 h a b cB cJ f g (nI n8) zc zg zo) sz tk tw)) (va_Qi (fun (r : Int32) (_ : Unit) => r = wr (bY f) n8 4097 a9 1) (fun (_ : Unit) => po dC dI (t0 cB cJ) (va_A (w0 h a b cB cJ f g (nI n8) zc zg zo) sz) (w0 h a b cB cJ f g (nI n8) zc zg zo)) (va_A (w0 h a b cB cJ f g (nI n8) zc zg zo) sz)) 0 0 (va_A (w0 h a b cB cJ f g (nI n8) zc zg zo) sz) := by
  refine Met.ofW (cc := cX0_lastHeadFrom) (maxL := 7) (ret := (some .int)) (by decide) rfl ?_
  intro p e s m args below meth c s₁ Bd hml hv
  obtain ⟨rfl, hsz, hP, hK, hD0, hZ⟩ := hv
  have hx := Bd.exec
  have hb := Bd.bytes
  have hr := Bd.returns
  have hts := atoms_spec (ws := wsX0_lastHeadFrom) Bd.pre
  have hown : s.vm.findClass RX0 = some m.cls := findClass_of_methodNamed Bd.named
  have hlocks := Bd.notSynchronized
  subst hsz
  have hD := hD0.self (sz := s.heap.size)
  generalize hAe : va_A (w0 h a b cB cJ f g (nI n8) zc zg zo) s.heap.size = A at hD hZ ⊢
  have hA : ∀ q : Nat, s.heap.size ≤ q → A q := fun q h => by rw [← hAe]; exact Or.inr h
  have hS : va_S A s.heap s.heap [] := va_S.rf
  have hP : va_P (dC, dI) vwCl (w0 h a b cB cJ f g (nI n8) zc zg zo) s.heap := hP
  have hl := lv_entry ([.ref h, .int (nI a9)]) (n := 7) (Nat.le_of_ble_eq_true rfl)
  rw [lg_entry_eq]
  generalize (lg_sl ([.ref h, .int (nI a9)]) ++ List.replicate (7 - (lg_sl ([.ref h, .int (nI a9)])).length) Slot.unset).toArray = ls at hl ⊢
  have hl : lv_has ls 7 [(0, .ref h), (1, .int (nI a9))] := hl
  refine lv_iload_n hx hb dX0_lastHeadFrom_0 rfl (lv_at hl 1 rfl) ?_
  refine lv_istore_n (lv' := [(2, .int (nI a9)), (0, .ref h), (1, .int (nI a9))]) hx hb dX0_lastHeadFrom_1 rfl hl (by decide) rfl (fun ls hl => ?_)
  refine lv_lconst (v := 1) hx hb dX0_lastHeadFrom_2 (by decide) ?_
  refine lv_lstore_n (lv' := [(3, .long 1), (2, .int (nI a9)), (0, .ref h), (1, .int (nI a9))]) hx hb dX0_lastHeadFrom_3 rfl hl (by decide) rfl (fun ls hl => ?_)
  refine lv_iconst (v := 0) hx hb dX0_lastHeadFrom_4 (by decide) ?_
  refine lv_istore (lv' := [(5, .int 0), (3, .long 1), (2, .int (nI a9)), (0, .ref h), (1, .int (nI a9))]) hx hb dX0_lastHeadFrom_5 hl (by decide) rfl (fun ls hl => ?_)
  have loop7 : ∀ (fz : Nat) (q i x : Nat) (d : Int64), q < fz → i + q = 4097 → x ≤ 4096 → wr (bY f) n8 q x d = wr (bY f) n8 4097 a9 1 → ∀ (H : Heap) (locs : List Loc), va_P (dC, dI) vwCl (w0 h a b cB cJ f g (nI n8) zc zg zo) H → va_D A (w0 h a b cB cJ f g (nI n8) zc zg zo) → va_S A s.heap H locs → ∀ ls : Array Slot, lv_has ls 7 [(0, .ref h), (1, .int (nI a9)), (2, .int (nI x)), (3, .long d), (5, .int (nI i))] → W p l e (headSpec wsX0_lastHeadFrom ({ frames := 5, cells := 0, slots := 0, locals := 116 })).room s m ([.ref h, .int (nI a9)]).toArray below meth c H locs 0 0 (MQ below (va_Qi (fun (r : Int32) (_ : Unit) => r = wr (bY f) n8 4097 a9 1) (fun (_ : Unit) => po dC dI (t0 cB cJ) A (w0 h a b cB cJ f g (nI n8) zc zg zo)) A) ([.ref h, .int (nI a9)]).toArray s 0 0 A) (F0 m 7 ls []) := by
    intro fz
    induction fz with
    | zero =>
      intro q i x d hq hi hx9 hw9 H locs hP hD hS ls hl
      exact absurd hq (Nat.not_lt_zero _)
    | succ fz ih =>
      intro q i x d hq hi hx9 hw9 H locs hP hD hS ls hl
      refine lv_iload hx hb dX0_lastHeadFrom_7 (lv_at hl 4 rfl) ?_
      refine lv_sipush (v := 4096) hx hb dX0_lastHeadFrom_9 (by decide) ?_
      refine lv_icmp_gt (tgt := 60) hx hb dX0_lastHeadFrom_12 (by decide) (fun c_1 => ?_) (fun c_1 => ?_)
      · skip
        have hq0 : q = 0 := by have z := (nI_ltI (a := 4096) (b := i) (by decide) (by omega)).mp c_1; omega
        refine lv_bipush (v := -2) hx hb dX0_lastHeadFrom_60 (by decide) ?_
        exact W.iret (v := -2) hx hb hr (fun t ht hW => ⟨⟨-2, (), rfl, (by rw [← hw9, hq0]; exact wr_0.symm), by rw [ht]; exact hP, va_K.moved hW.alike hK, hD⟩, hS.F ht⟩) hS.2.2 dX0_lastHeadFrom_62
      · skip
        obtain ⟨t, ht9⟩ : ∃ t, q = t + 1 := ⟨q - 1, by have z := (not_congr (nI_ltI (a := 4096) (b := i) (by decide) (by omega))).mp c_1; omega⟩
        refine lv_aload_n hx hb dX0_lastHeadFrom_15 rfl (lv_at hl 0 rfl) ?_
        refine lv_iload_n hx hb dX0_lastHeadFrom_16 rfl (lv_at hl 2 rfl) ?_
        refine gvi (As := [.int (nI x)]) (rest := []) ⟨hx, hb, hml, hown, hts⟩ (c_X0_lookAt l dC dI tk tw h a b cB cJ _ f g zc zg zo n8 x hn8 hx9) (cwV 1 hts gX0_lastHeadFrom_X0_lookAt rfl rfl rfl (by decide +kernel) ⟨Nat.le_of_ble_eq_true rfl, Nat.le_of_ble_eq_true rfl⟩) hK hP hD hS hA hZ (q0 := 0) (ci := 0) rfl rfl rfl rfl hl.1 rfl (Nat.le_of_ble_eq_true rfl) dX0_lastHeadFrom_17 ⟨Nat.le_of_ble_eq_true rfl, Nat.le_of_ble_eq_true rfl⟩ (fun r_3 u_4 H locs hw_2 hP hD hS => ?_)
        obtain rfl : r_3 = lkS (bY f) n8 x := hw_2
        refine lv_istore (lv' := [(6, .int (lkS (bY f) n8 x)), (0, .ref h), (1, .int (nI a9)), (2, .int (nI x)), (3, .long d), (5, .int (nI i))]) hx hb dX0_lastHeadFrom_20 hl (by decide) rfl (fun ls hl => ?_)
        refine lv_iload hx hb dX0_lastHeadFrom_22 (lv_at hl 0 rfl) ?_
        refine lv_if_ge (tgt := 30) hx hb dX0_lastHeadFrom_24 (by decide) (fun c_5 => ?_) (fun c_5 => ?_)
        · skip
          have c_5x : ¬ lkS (bY f) n8 x < 0 := Int32.not_lt.mpr c_5
          have c_5 := c_5x
          have q2 := nx_eq (bY_lt f) hn8 hx9 c_5
          refine lv_lload_n hx hb dX0_lastHeadFrom_30 rfl (lv_at hl 4 rfl) ?_
          refine lv_aload_n hx hb dX0_lastHeadFrom_31 rfl (lv_at hl 1 rfl) ?_
          refine lv_iload_n hx hb dX0_lastHeadFrom_32 rfl (lv_at hl 3 rfl) ?_
          refine gvl (As := [.int (nI x)]) (rest := [.long d]) ⟨hx, hb, hml, hown, hts⟩ (c_X0_childrenAt l dC dI tk tw h a b cB cJ _ f g (nI n8) zc zg zo x (by have := q2.2.2.2; omega)) (cwV 1 hts gX0_lastHeadFrom_X0_childrenAt rfl rfl rfl (by decide +kernel) ⟨Nat.le_of_ble_eq_true rfl, Nat.le_of_ble_eq_true rfl⟩) hK hP hD hS hA hZ (q0 := 0) (ci := 0) rfl rfl rfl rfl hl.1 rfl (Nat.le_of_ble_eq_true rfl) dX0_lastHeadFrom_33 ⟨Nat.le_of_ble_eq_true rfl, Nat.le_of_ble_eq_true rfl⟩ (fun r_7 u_8 H locs hw_6 hP hD hS => ?_)
          obtain rfl : r_7 = ch (bY f) x := hw_6
          refine lv_lconst (v := 1) hx hb dX0_lastHeadFrom_36 (by decide) ?_
          refine lv_lsub hx hb dX0_lastHeadFrom_37 ?_
          refine lv_ladd hx hb dX0_lastHeadFrom_38 ?_
          refine lv_lstore_n (lv' := [(3, .long (d + ((ch (bY f) x) - 1))), (6, .int (lkS (bY f) n8 x)), (0, .ref h), (1, .int (nI a9)), (2, .int (nI x)), (5, .int (nI i))]) hx hb dX0_lastHeadFrom_39 rfl hl (by decide) rfl (fun ls hl => ?_)
          refine lv_lload_n hx hb dX0_lastHeadFrom_40 rfl (lv_at hl 0 rfl) ?_
          refine lv_lconst (v := 0) hx hb dX0_lastHeadFrom_41 (by decide) ?_
          refine W.lcmp hx hb dX0_lastHeadFrom_42 ?_
          refine lv_if_ne (tgt := 48) hx hb dX0_lastHeadFrom_43 (by decide) (fun c_9 => ?_) (fun c_9 => ?_)
          · skip
            have c_9 := (not_congr (lg_cmp_eq (d + ((ch (bY f) x) - 1)) (0 : Int64))).mp c_9
            refine lv_aload_n hx hb dX0_lastHeadFrom_48 rfl (lv_at hl 2 rfl) ?_
            refine lv_iload_n hx hb dX0_lastHeadFrom_49 rfl (lv_at hl 4 rfl) ?_
            refine gvi (As := [.int (nI x)]) (rest := []) ⟨hx, hb, hml, hown, hts⟩ (c_X0_endAt l dC dI tk tw h a b cB cJ _ f g (nI n8) zc zg zo x (by have := q2.2.2.2; omega)) (cwV 1 hts gX0_lastHeadFrom_X0_endAt rfl rfl rfl (by decide +kernel) ⟨Nat.le_of_ble_eq_true rfl, Nat.le_of_ble_eq_true rfl⟩) hK hP hD hS hA hZ (q0 := 0) (ci := 0) rfl rfl rfl rfl hl.1 rfl (Nat.le_of_ble_eq_true rfl) dX0_lastHeadFrom_50 ⟨Nat.le_of_ble_eq_true rfl, Nat.le_of_ble_eq_true rfl⟩ (fun r_11 u_12 H locs hw_10 hP hD hS => ?_)
            obtain rfl : r_11 = nI (nx (bY f) x) := hw_10.trans q2.1
            refine lv_istore_n (lv' := [(2, .int (nI (nx (bY f) x))), (3, .long (d + ((ch (bY f) x) - 1))), (6, .int (lkS (bY f) n8 x)), (0, .ref h), (1, .int (nI a9)), (5, .int (nI i))]) hx hb dX0_lastHeadFrom_53 rfl hl (by decide) rfl (fun ls hl => ?_)
            refine lv_iinc (v := nI (i + 1)) (lv' := [(5, .int (nI (i + 1))), (2, .int (nI (nx (bY f) x))), (3, .long (d + ((ch (bY f) x) - 1))), (6, .int (lkS (bY f) n8 x)), (0, .ref h), (1, .int (nI a9))]) hx hb dX0_lastHeadFrom_54 hl (k := 5) rfl (nI_1 i) (by decide) rfl (fun ls hl => ?_)
            refine lv_goto (tgt := 7) hx hb dX0_lastHeadFrom_57 (by decide) ?_
            exact ih t (i + 1) (nx (bY f) x) _ (by omega) (by omega) (by have := q2.2.1; omega) (by rw [← hw9, ht9]; exact (wr_next c_5 c_9).symm) _ _ hP hD hS ls (lv_sub hl [4, 5, 1, 2, 0] rfl)
          · skip
            have c_9 := (lg_cmp_eq (d + ((ch (bY f) x) - 1)) (0 : Int64)).mp c_9
            refine lv_iload_n hx hb dX0_lastHeadFrom_46 rfl (lv_at hl 4 rfl) ?_
            exact W.iret (v := nI x) hx hb hr (fun t ht hW => ⟨⟨nI x, (), rfl, (by rw [← hw9, ht9]; exact (wr_end c_5 c_9).symm), by rw [ht]; exact hP, va_K.moved hW.alike hK, hD⟩, hS.F ht⟩) hS.2.2 dX0_lastHeadFrom_47
        · skip
          refine lv_iload hx hb dX0_lastHeadFrom_27 (lv_at hl 0 rfl) ?_
          exact W.iret (v := lkS (bY f) n8 x) hx hb hr (fun t ht hW => ⟨⟨lkS (bY f) n8 x, (), rfl, (by rw [← hw9, ht9]; exact (wr_neg (Int32.not_le.mp c_5)).symm), by rw [ht]; exact hP, va_K.moved hW.alike hK, hD⟩, hS.F ht⟩) hS.2.2 dX0_lastHeadFrom_29
  exact loop7 (4097 + 1) 4097 0 a9 1 (by omega) rfl h9 rfl _ _ hP hD hS ls (lv_sub hl [3, 4, 2, 1, 0] rfl)
end
section
/-! the walk over a whole value -/
theorem nI_self {x : Int32} (h : ¬ x < 0) : nI x.toNatClampNeg = x := by
  obtain ⟨j, hj, rfl⟩ := nI_of h
  rw [nI_clamp hj]
theorem wk_ok {B : Nat → Nat} (hB : ∀ j, B j < 256) {n : Nat} (hn : n ≤ 4096) : ∀ (m a : Nat) (d : Int64), a ≤ 4096 → ¬ (wk B n m a d).1 < 0 → ¬ lkS B n (wk B n m a d).2 < 0 ∧ a ≤ (wk B n m a d).2 ∧ (wk B n m a d).2 < n := by
  intro m
  induction m with
  | zero => intro a d _ h; exact absurd (show (-2 : Int32) < 0 by decide) h
  | succ m ih =>
    intro a d ha h
    by_cases h1 : lkS B n a < 0
    · simp only [wk, if_pos h1] at h
      exact absurd h1 h
    · obtain ⟨q1, q2, q3, q4⟩ := nx_eq hB hn ha h1
      by_cases h2 : d + (ch B a - 1) = 0
      · simp only [wk, if_neg h1, if_pos h2]
        exact ⟨h1, Nat.le_refl _, by omega⟩
      · simp only [wk, if_neg h1, if_neg h2] at h ⊢
        obtain ⟨z1, z2, z3⟩ := ih (nx B a) _ (by omega) h
        exact ⟨z1, by omega, z3⟩
theorem wr_lt {B : Nat → Nat} (hB : ∀ j, B j < 256) {n : Nat} (hn : n ≤ 4096) {m a : Nat} {d : Int64} (ha : a ≤ 4096) : wr B n m a d < 0 ↔ (wk B n m a d).1 < 0 := by
  unfold wr
  by_cases h : (wk B n m a d).1 < 0
  · rw [if_pos h]
  · rw [if_neg h]
    have := (wk_ok hB hn m a d ha h).2.2
    exact ⟨fun z => absurd z (nI_pos (by omega)), fun z => absurd z h⟩
theorem wr_at {B : Nat → Nat} {n m a : Nat} {d : Int64} (h : ¬ (wk B n m a d).1 < 0) : wr B n m a d = nI (wk B n m a d).2 := if_neg h
theorem wk_end {B : Nat → Nat} (hB : ∀ j, B j < 256) {n : Nat} (hn : n ≤ 4096) {m a : Nat} {d : Int64} (ha : a ≤ 4096) (h : ¬ wr B n m a d < 0) :
    wr B n m a d = nI (wk B n m a d).2 ∧ (wk B n m a d).2 ≤ 4096 ∧ (wk B n m a d).2 + 1 + wd (B (wk B n m a d).2) ≤ 4096 ∧ nI (wk B n m a d).2 + nI (hd (B (wk B n m a d).2)) + pl B (wk B n m a d).2 = nI (nx B (wk B n m a d).2) ∧ nx B (wk B n m a d).2 ≤ n ∧ a < nx B (wk B n m a d).2 := by
  have h1 : ¬ (wk B n m a d).1 < 0 := (not_congr (wr_lt hB hn ha)).mp h
  obtain ⟨q1, q2, q3⟩ := wk_ok hB hn m a d ha h1
  obtain ⟨z1, z2, z3, z4⟩ := nx_eq hB hn (by omega) q1
  exact ⟨wr_at h1, by omega, by omega, z1, z2, by omega⟩
/-- how many whole values stand one behind the other -/
def wh (B : Nat → Nat) (n : Nat) : Nat → Nat → Nat
  | 0, _ => 0
  | m + 1, a => if wr B n 4097 a 1 < 0 then 0 else 1 + wh B n m (nx B (wk B n 4097 a 1).2)
theorem wh_neg {B : Nat → Nat} {n m a : Nat} (h : wr B n 4097 a 1 < 0) : wh B n (m + 1) a = 0 := if_pos h
theorem wh_pos {B : Nat → Nat} {n m a : Nat} (h : ¬ wr B n 4097 a 1 < 0) : wh B n (m + 1) a = 1 + wh B n m (nx B (wk B n 4097 a 1).2) := if_neg h
def vh (f : Nat → Int32) (a : Nat) : Int32 := if kd (bY f a) = 12 then f (a + hd (bY f a) - 1) else ((nv (bY f) a).toUInt64 >>> ((32 : Int32).toInt64.toUInt64 &&& Int64.toUInt64 63)).toInt64.toInt32
def py (f : Nat → Int32) (a : Nat) (i : Int32) : Int32 := if i < 0 then -1 else if i < pl (bY f) a then nI (bY f (a + hd (bY f a) + i.toNatClampNeg)) else -1
/-- what next() does: the answer, (children left, consumed, given, open) -/
def nxP (f : Nat → Int32) (g : Nat → Int64) (n c : Nat) (zg : Int32) (k : Nat) (r : Int32) (u : (Nat → Int64) × Int32 × Int32 × Int32) : Prop :=
  (lkS (bY f) n c < 0 ∧ r = lkS (bY f) n c ∧ u = (g, nI c, zg, nI k)) ∨
  (¬ lkS (bY f) n c < 0 ∧ 0 < ch (bY f) c ∧ k = 100 ∧ r = -5 ∧ u = (g, nI c, zg, nI k)) ∨
  (¬ lkS (bY f) n c < 0 ∧ ¬ (0 < ch (bY f) c ∧ k = 100) ∧ r = lkS (bY f) n c ∧ u = (og (cc1 g k) k (ch (bY f) c), nI (nx (bY f) c), nI c, nI (cl (og (cc1 g k) k (ch (bY f) c)) (ok k (ch (bY f) c)))))
def skP (f : Nat → Int32) (g : Nat → Int64) (n c : Nat) (zg : Int32) (k : Nat) (r : Int32) (u : (Nat → Int64) × Int32 × Int32 × Int32) : Prop :=
  (wr (bY f) n 4097 c 1 < 0 ∧ r = wr (bY f) n 4097 c 1 ∧ u = (g, nI c, zg, nI k)) ∨
  (¬ wr (bY f) n 4097 c 1 < 0 ∧ r = nI (nx (bY f) (wk (bY f) n 4097 c 1).2) - nI c ∧ u = (cc1 g k, nI (nx (bY f) (wk (bY f) n 4097 c 1).2), nI (wk (bY f) n 4097 c 1).2, nI (cl (cc1 g k) k)))
end
section
set_option maxHeartbeats 4000000 in
set_option maxRecDepth 100000 in
theorem c_X0_kind (l : Launch) (dC : Nat → ClassId) (dI : Nat → Nat → Nat) (tk tw : Nat) (h a b : Nat) (cB cJ : ClassId) (sz : Nat) (f : Nat → Int32) (g : Nat → Int64) (zs : Int32) (zc : Int32) (zo : Int32) (a9 : Nat) (h9 : a9 + hd (bY f a9) ≤ 4096) : Met l yX0_kind wsX0_kind ({ frames := 2, cells := 0, slots := 0, locals := 42 }) (va_Pc [.ref h] (pr dC dI (t0 cB cJ) (w0 h a b cB cJ f g zs zc (nI a9) zo) sz tk tw)) (va_Qi (fun (r : Int32) (_ : Unit) => r = nI (kd (bY f a9))) (fun (_ : Unit) => po dC dI (t0 cB cJ) (va_A (w0 h a b cB cJ f g zs zc (nI a9) zo) sz) (w0 h a b cB cJ f g zs zc (nI a9) zo)) (va_A (w0 h a b cB cJ f g zs zc (nI a9) zo) sz)) 0 0 (va_A (w0 h a b cB cJ f g zs zc (nI a9) zo) sz) := by
  refine Met.ofW (cc := cX0_kind) (maxL := 1) (ret := (some .int)) (by decide) rfl ?_
  intro p e s m args below meth c s₁ Bd hml hv
  obtain ⟨rfl, hsz, hP, hK, hD0, hZ⟩ := hv
  have hx := Bd.exec
  have hb := Bd.bytes
  have hr := Bd.returns
  have hts := atoms_spec (ws := wsX0_kind) Bd.pre
  have hown : s.vm.findClass RX0 = some m.cls := findClass_of_methodNamed Bd.named
  have hlocks := Bd.notSynchronized
  subst hsz
  have hD := hD0.self (sz := s.heap.size)
  generalize hAe : va_A (w0 h a b cB cJ f g zs zc (nI a9) zo) s.heap.size = A at hD hZ ⊢
  have hA : ∀ q : Nat, s.heap.size ≤ q → A q := fun q h => by rw [← hAe]; exact Or.inr h
  have hS : va_S A s.heap s.heap [] := va_S.rf
  have hP : va_P (dC, dI) vwCl (w0 h a b cB cJ f g zs zc (nI a9) zo) s.heap := hP
  have hin0 : ∀ w ∈ wsX00, w ∈ wsX0_kind := by decide +kernel
  have fl20 := hts (.fieldLink RX0 20 "MessageReader" "given" "I") (by decide +kernel)
  have hl := lv_entry ([.ref h]) (n := 1) (Nat.le_of_ble_eq_true rfl)
  rw [lg_entry_eq]
  generalize (lg_sl ([.ref h]) ++ List.replicate (1 - (lg_sl ([.ref h])).length) Slot.unset).toArray = ls at hl ⊢
  have hl : lv_has ls 1 [(0, .ref h)] := hl
  refine lv_aload_n hx hb dX0_kind_0 rfl (lv_at hl 0 rfl) ?_
  refine va_get (D := (dC, dI)) (ci := 0) (v := .int (nI a9)) (C := RX0) (T := TX0) (N := 6) hx hb hts hin0 hown hK hP 0 rfl rfl 3 (by decide) fl20 (fun _ h9 => h9) rfl dX0_kind_1 ?_
  refine lv_if_ge (tgt := 11) hx hb dX0_kind_4 (by decide) (fun c_1 => ?_) (fun c_1 => ?_)
  · skip
    refine lv_aload_n hx hb dX0_kind_11 rfl (lv_at hl 0 rfl) ?_
    refine lv_aload_n hx hb dX0_kind_12 rfl (lv_at hl 0 rfl) ?_
    refine va_get (D := (dC, dI)) (ci := 0) (v := .int (nI a9)) (C := RX0) (T := TX0) (N := 6) hx hb hts hin0 hown hK hP 0 rfl rfl 3 (by decide) fl20 (fun _ h9 => h9) rfl dX0_kind_13 ?_
    refine gvi (As := [.int (nI a9)]) (rest := []) ⟨hx, hb, hml, hown, hts⟩ (c_X0_kindAt l dC dI tk tw h a b cB cJ _ f g zs zc (nI a9) zo a9 (by have q7 := hd_le _ (bY_lt f a9); omega)) (cwV 1 hts gX0_kind_X0_kindAt rfl rfl rfl (by decide +kernel) ⟨Nat.le_of_ble_eq_true rfl, Nat.le_of_ble_eq_true rfl⟩) hK hP hD hS hA hZ (q0 := 0) (ci := 0) rfl rfl rfl rfl hl.1 rfl (Nat.le_of_ble_eq_true rfl) dX0_kind_16 ⟨Nat.le_of_ble_eq_true rfl, Nat.le_of_ble_eq_true rfl⟩ (fun r_3 u_4 H locs hw_2 hP hD hS => ?_)
    obtain rfl : r_3 = nI (kd (bY f a9)) := hw_2
    exact W.iret (v := nI (kd (bY f a9))) hx hb hr (fun t ht hW => ⟨⟨nI (kd (bY f a9)), (), rfl, rfl, by rw [ht]; exact hP, va_K.moved hW.alike hK, hD⟩, hS.F ht⟩) hS.2.2 dX0_kind_19
  · skip
    exact absurd (nI_pos' (by omega)) c_1
set_option maxHeartbeats 4000000 in
set_option maxRecDepth 100000 in
theorem c_X0_kind_n (l : Launch) (dC : Nat → ClassId) (dI : Nat → Nat → Nat) (tk tw : Nat) (h a b : Nat) (cB cJ : ClassId) (sz : Nat) (f : Nat → Int32) (g : Nat → Int64) (zs : Int32) (zc : Int32) (zo : Int32)  : Met l yX0_kind wsX0_kind ({ frames := 0, cells := 0, slots := 0, locals := 0 }) (va_Pc [.ref h] (pr dC dI (t0 cB cJ) (w0 h a b cB cJ f g zs zc (-1) zo) sz tk tw)) (va_Qi (fun (r : Int32) (_ : Unit) => r = -1) (fun (_ : Unit) => po dC dI (t0 cB cJ) (va_A (w0 h a b cB cJ f g zs zc (-1) zo) sz) (w0 h a b cB cJ f g zs zc (-1) zo)) (va_A (w0 h a b cB cJ f g zs zc (-1) zo) sz)) 0 0 (va_A (w0 h a b cB cJ f g zs zc (-1) zo) sz) := by
  refine Met.ofW (cc := cX0_kind) (maxL := 1) (ret := (some .int)) (by decide) rfl ?_
  intro p e s m args below meth c s₁ Bd hml hv
  obtain ⟨rfl, hsz, hP, hK, hD0, hZ⟩ := hv
  have hx := Bd.exec
  have hb := Bd.bytes
  have hr := Bd.returns
  have hts := atoms_spec (ws := wsX0_kind) Bd.pre
  have hown : s.vm.findClass RX0 = some m.cls := findClass_of_methodNamed Bd.named
  have hlocks := Bd.notSynchronized
  subst hsz
  have hD := hD0.self (sz := s.heap.size)
  generalize hAe : va_A (w0 h a b cB cJ f g zs zc (-1) zo) s.heap.size = A at hD hZ ⊢
  have hA : ∀ q : Nat, s.heap.size ≤ q → A q := fun q h => by rw [← hAe]; exact Or.inr h
  have hS : va_S A s.heap s.heap [] := va_S.rf
  have hP : va_P (dC, dI) vwCl (w0 h a b cB cJ f g zs zc (-1) zo) s.heap := hP
  have hin0 : ∀ w ∈ wsX00, w ∈ wsX0_kind := by decide +kernel
  have fl20 := hts (.fieldLink RX0 20 "MessageReader" "given" "I") (by decide +kernel)
  have hl := lv_entry ([.ref h]) (n := 1) (Nat.le_of_ble_eq_true rfl)
  rw [lg_entry_eq]
  generalize (lg_sl ([.ref h]) ++ List.replicate (1 - (lg_sl ([.ref h])).length) Slot.unset).toArray = ls at hl ⊢
  have hl : lv_has ls 1 [(0, .ref h)] := hl
  refine lv_aload_n hx hb dX0_kind_0 rfl (lv_at hl 0 rfl) ?_
  refine va_get (D := (dC, dI)) (ci := 0) (v := .int (-1)) (C := RX0) (T := TX0) (N := 6) hx hb hts hin0 hown hK hP 0 rfl rfl 3 (by decide) fl20 (fun _ h9 => h9) rfl dX0_kind_1 ?_
  refine lv_if_ge (tgt := 11) hx hb dX0_kind_4 (by decide) (fun c_1 => ?_) (fun c_1 => ?_)
  · skip
    exact absurd c_1 (by decide)
  · skip
    refine lv_iconst (v := -1) hx hb dX0_kind_7 (by decide) ?_
    refine lv_goto (tgt := 19) hx hb dX0_kind_8 (by decide) ?_
    exact W.iret (v := -1) hx hb hr (fun t ht hW => ⟨⟨-1, (), rfl, rfl, by rw [ht]; exact hP, va_K.moved hW.alike hK, hD⟩, hS.F ht⟩) hS.2.2 dX0_kind_19
set_option maxHeartbeats 4000000 in
set_option maxRecDepth 100000 in
theorem c_X0_valueLow (l : Launch) (dC : Nat → ClassId) (dI : Nat → Nat → Nat) (tk tw : Nat) (h a b : Nat) (cB cJ : ClassId) (sz : Nat) (f : Nat → Int32) (g : Nat → Int64) (zs : Int32) (zc : Int32) (zo : Int32) (a9 : Nat) (h9 : a9 + hd (bY f a9) ≤ 4096) : Met l yX0_valueLow wsX0_valueLow ({ frames := 3, cells := 0, slots := 0, locals := 71 }) (va_Pc [.ref h] (pr dC dI (t0 cB cJ) (w0 h a b cB cJ f g zs zc (nI a9) zo) sz tk tw)) (va_Qi (fun (r : Int32) (_ : Unit) => r = (nv (bY f) a9).toInt32) (fun (_ : Unit) => po dC dI (t0 cB cJ) (va_A (w0 h a b cB cJ f g zs zc (nI a9) zo) sz) (w0 h a b cB cJ f g zs zc (nI a9) zo)) (va_A (w0 h a b cB cJ f g zs zc (nI a9) zo) sz)) 0 0 (va_A (w0 h a b cB cJ f g zs zc (nI a9) zo) sz) := by
  refine Met.ofW (cc := cX0_valueLow) (maxL := 1) (ret := (some .int)) (by decide) rfl ?_
  intro p e s m args below meth c s₁ Bd hml hv
  obtain ⟨rfl, hsz, hP, hK, hD0, hZ⟩ := hv
  have hx := Bd.exec
  have hb := Bd.bytes
  have hr := Bd.returns
  have hts := atoms_spec (ws := wsX0_valueLow) Bd.pre
  have hown : s.vm.findClass RX0 = some m.cls := findClass_of_methodNamed Bd.named
  have hlocks := Bd.notSynchronized
  subst hsz
  have hD := hD0.self (sz := s.heap.size)
  generalize hAe : va_A (w0 h a b cB cJ f g zs zc (nI a9) zo) s.heap.size = A at hD hZ ⊢
  have hA : ∀ q : Nat, s.heap.size ≤ q → A q := fun q h => by rw [← hAe]; exact Or.inr h
  have hS : va_S A s.heap s.heap [] := va_S.rf
  have hP : va_P (dC, dI) vwCl (w0 h a b cB cJ f g zs zc (nI a9) zo) s.heap := hP
  have hin0 : ∀ w ∈ wsX00, w ∈ wsX0_valueLow := by decide +kernel
  have fl20 := hts (.fieldLink RX0 20 "MessageReader" "given" "I") (by decide +kernel)
  have hl := lv_entry ([.ref h]) (n := 1) (Nat.le_of_ble_eq_true rfl)
  rw [lg_entry_eq]
  generalize (lg_sl ([.ref h]) ++ List.replicate (1 - (lg_sl ([.ref h])).length) Slot.unset).toArray = ls at hl ⊢
  have hl : lv_has ls 1 [(0, .ref h)] := hl
  refine lv_aload_n hx hb dX0_valueLow_0 rfl (lv_at hl 0 rfl) ?_
  refine va_get (D := (dC, dI)) (ci := 0) (v := .int (nI a9)) (C := RX0) (T := TX0) (N := 6) hx hb hts hin0 hown hK hP 0 rfl rfl 3 (by decide) fl20 (fun _ h9 => h9) rfl dX0_valueLow_1 ?_
  refine lv_if_ge (tgt := 11) hx hb dX0_valueLow_4 (by decide) (fun c_1 => ?_) (fun c_1 => ?_)
  · skip
    refine lv_aload_n hx hb dX0_valueLow_11 rfl (lv_at hl 0 rfl) ?_
    refine lv_aload_n hx hb dX0_valueLow_12 rfl (lv_at hl 0 rfl) ?_
    refine va_get (D := (dC, dI)) (ci := 0) (v := .int (nI a9)) (C := RX0) (T := TX0) (N := 6) hx hb hts hin0 hown hK hP 0 rfl rfl 3 (by decide) fl20 (fun _ h9 => h9) rfl dX0_valueLow_13 ?_
    refine gvl (As := [.int (nI a9)]) (rest := []) ⟨hx, hb, hml, hown, hts⟩ (c_X0_numberAt l dC dI tk tw h a b cB cJ _ f g zs zc (nI a9) zo a9 (by have q7 := hd_le _ (bY_lt f a9); omega)) (cwV 1 hts gX0_valueLow_X0_numberAt rfl rfl rfl (by decide +kernel) ⟨Nat.le_of_ble_eq_true rfl, Nat.le_of_ble_eq_true rfl⟩) hK hP hD hS hA hZ (q0 := 0) (ci := 0) rfl rfl rfl rfl hl.1 rfl (Nat.le_of_ble_eq_true rfl) dX0_valueLow_16 ⟨Nat.le_of_ble_eq_true rfl, Nat.le_of_ble_eq_true rfl⟩ (fun r_3 u_4 H locs hw_2 hP hD hS => ?_)
    obtain rfl : r_3 = nv (bY f) a9 := hw_2
    refine lv_l2i hx hb dX0_valueLow_19 rfl ?_
    exact W.iret (v := (nv (bY f) a9).toInt32) hx hb hr (fun t ht hW => ⟨⟨(nv (bY f) a9).toInt32, (), rfl, rfl, by rw [ht]; exact hP, va_K.moved hW.alike hK, hD⟩, hS.F ht⟩) hS.2.2 dX0_valueLow_20
  · skip
    exact absurd (nI_pos' (by omega)) c_1
set_option maxHeartbeats 4000000 in
set_option maxRecDepth 100000 in
theorem c_X0_valueLow_n (l : Launch) (dC : Nat → ClassId) (dI : Nat → Nat → Nat) (tk tw : Nat) (h a b : Nat) (cB cJ : ClassId) (sz : Nat) (f : Nat → Int32) (g : Nat → Int64) (zs : Int32) (zc : Int32) (zo : Int32)  : Met l yX0_valueLow wsX0_valueLow ({ frames := 0, cells := 0, slots := 0, locals := 0 }) (va_Pc [.ref h] (pr dC dI (t0 cB cJ) (w0 h a b cB cJ f g zs zc (-1) zo) sz tk tw)) (va_Qi (fun (r : Int32) (_ : Unit) => r = 0) (fun (_ : Unit) => po dC dI (t0 cB cJ) (va_A (w0 h a b cB cJ f g zs zc (-1) zo) sz) (w0 h a b cB cJ f g zs zc (-1) zo)) (va_A (w0 h a b cB cJ f g zs zc (-1) zo) sz)) 0 0 (va_A (w0 h a b cB cJ f g zs zc (-1) zo) sz) := by
  refine Met.ofW (cc := cX0_valueLow) (maxL := 1) (ret := (some .int)) (by decide) rfl ?_
  intro p e s m args below meth c s₁ Bd hml hv
  obtain ⟨rfl, hsz, hP, hK, hD0, hZ⟩ := hv
  have hx := Bd.exec
  have hb := Bd.bytes
  have hr := Bd.returns
  have hts := atoms_spec (ws := wsX0_valueLow) Bd.pre
  have hown : s.vm.findClass RX0 = some m.cls := findClass_of_methodNamed Bd.named
  have hlocks := Bd.notSynchronized
  subst hsz
  have hD := hD0.self (sz := s.heap.size)
  generalize hAe : va_A (w0 h a b cB cJ f g zs zc (-1) zo) s.heap.size = A at hD hZ ⊢
  have hA : ∀ q : Nat, s.heap.size ≤ q → A q := fun q h => by rw [← hAe]; exact Or.inr h
  have hS : va_S A s.heap s.heap [] := va_S.rf
  have hP : va_P (dC, dI) vwCl (w0 h a b cB cJ f g zs zc (-1) zo) s.heap := hP
  have hin0 : ∀ w ∈ wsX00, w ∈ wsX0_valueLow := by decide +kernel
  have fl20 := hts (.fieldLink RX0 20 "MessageReader" "given" "I") (by decide +kernel)
  have hl := lv_entry ([.ref h]) (n := 1) (Nat.le_of_ble_eq_true rfl)
  rw [lg_entry_eq]
  generalize (lg_sl ([.ref h]) ++ List.replicate (1 - (lg_sl ([.ref h])).length) Slot.unset).toArray = ls at hl ⊢
  have hl : lv_has ls 1 [(0, .ref h)] := hl
  refine lv_aload_n hx hb dX0_valueLow_0 rfl (lv_at hl 0 rfl) ?_
  refine va_get (D := (dC, dI)) (ci := 0) (v := .int (-1)) (C := RX0) (T := TX0) (N := 6) hx hb hts hin0 hown hK hP 0 rfl rfl 3 (by decide) fl20 (fun _ h9 => h9) rfl dX0_valueLow_1 ?_
  refine lv_if_ge (tgt := 11) hx hb dX0_valueLow_4 (by decide) (fun c_1 => ?_) (fun c_1 => ?_)
  · skip
    exact absurd c_1 (by decide)
  · skip
    refine lv_iconst (v := 0) hx hb dX0_valueLow_7 (by decide) ?_
    refine lv_goto (tgt := 20) hx hb dX0_valueLow_8 (by decide) ?_
    exact W.iret (v := 0) hx hb hr (fun t ht hW => ⟨⟨0, (), rfl, rfl, by rw [ht]; exact hP, va_K.moved hW.alike hK, hD⟩, hS.F ht⟩) hS.2.2 dX0_valueLow_20
set_option maxHeartbeats 4000000 in
set_option maxRecDepth 100000 in
theorem c_X0_valueHigh (l : Launch) (dC : Nat → ClassId) (dI : Nat → Nat → Nat) (tk tw : Nat) (h a b : Nat) (cB cJ : ClassId) (sz : Nat) (f : Nat → Int32) (g : Nat → Int64) (zs : Int32) (zc : Int32) (zo : Int32) (a9 : Nat) (h9 : a9 + hd (bY f a9) ≤ 4096) : Met l yX0_valueHigh wsX0_valueHigh ({ frames := 5, cells := 0, slots := 0, locals := 102 }) (va_Pc [.ref h] (pr dC dI (t0 cB cJ) (w0 h a b cB cJ f g zs zc (nI a9) zo) sz tk tw)) (va_Qi (fun (r : Int32) (_ : Unit) => r = vh f a9) (fun (_ : Unit) => po dC dI (t0 cB cJ) (va_A (w0 h a b cB cJ f g zs zc (nI a9) zo) sz) (w0 h a b cB cJ f g zs zc (nI a9) zo)) (va_A (w0 h a b cB cJ f g zs zc (nI a9) zo) sz)) 0 0 (va_A (w0 h a b cB cJ f g zs zc (nI a9) zo) sz) := by
  refine Met.ofW (cc := cX0_valueHigh) (maxL := 1) (ret := (some .int)) (by decide) rfl ?_
  intro p e s m args below meth c s₁ Bd hml hv
  obtain ⟨rfl, hsz, hP, hK, hD0, hZ⟩ := hv
  have hx := Bd.exec
  have hb := Bd.bytes
  have hr := Bd.returns
  have hts := atoms_spec (ws := wsX0_valueHigh) Bd.pre
  have hown : s.vm.findClass RX0 = some m.cls := findClass_of_methodNamed Bd.named
  have hlocks := Bd.notSynchronized
  subst hsz
  have hD := hD0.self (sz := s.heap.size)
  generalize hAe : va_A (w0 h a b cB cJ f g zs zc (nI a9) zo) s.heap.size = A at hD hZ ⊢
  have hA : ∀ q : Nat, s.heap.size ≤ q → A q := fun q h => by rw [← hAe]; exact Or.inr h
  have hS : va_S A s.heap s.heap [] := va_S.rf
  have hP : va_P (dC, dI) vwCl (w0 h a b cB cJ f g zs zc (nI a9) zo) s.heap := hP
  have hin0 : ∀ w ∈ wsX00, w ∈ wsX0_valueHigh := by decide +kernel
  have fl20 := hts (.fieldLink RX0 20 "MessageReader" "given" "I") (by decide +kernel)
  have hl := lv_entry ([.ref h]) (n := 1) (Nat.le_of_ble_eq_true rfl)
  rw [lg_entry_eq]
  generalize (lg_sl ([.ref h]) ++ List.replicate (1 - (lg_sl ([.ref h])).length) Slot.unset).toArray = ls at hl ⊢
  have hl : lv_has ls 1 [(0, .ref h)] := hl
  refine lv_aload_n hx hb dX0_valueHigh_0 rfl (lv_at hl 0 rfl) ?_
  refine va_get (D := (dC, dI)) (ci := 0) (v := .int (nI a9)) (C := RX0) (T := TX0) (N := 6) hx hb hts hin0 hown hK hP 0 rfl rfl 3 (by decide) fl20 (fun _ h9 => h9) rfl dX0_valueHigh_1 ?_
  refine lv_if_ge (tgt := 9) hx hb dX0_valueHigh_4 (by decide) (fun c_1 => ?_) (fun c_1 => ?_)
  · skip
    refine lv_aload_n hx hb dX0_valueHigh_9 rfl (lv_at hl 0 rfl) ?_
    refine lv_aload_n hx hb dX0_valueHigh_10 rfl (lv_at hl 0 rfl) ?_
    refine va_get (D := (dC, dI)) (ci := 0) (v := .int (nI a9)) (C := RX0) (T := TX0) (N := 6) hx hb hts hin0 hown hK hP 0 rfl rfl 3 (by decide) fl20 (fun _ h9 => h9) rfl dX0_valueHigh_11 ?_
    refine gvi (As := [.int (nI a9)]) (rest := []) ⟨hx, hb, hml, hown, hts⟩ (c_X0_kindAt l dC dI tk tw h a b cB cJ _ f g zs zc (nI a9) zo a9 (by have q7 := hd_le _ (bY_lt f a9); omega)) (cwV 1 hts gX0_valueHigh_X0_kindAt rfl rfl rfl (by decide +kernel) ⟨Nat.le_of_ble_eq_true rfl, Nat.le_of_ble_eq_true rfl⟩) hK hP hD hS hA hZ (q0 := 0) (ci := 0) rfl rfl rfl rfl hl.1 rfl (Nat.le_of_ble_eq_true rfl) dX0_valueHigh_14 ⟨Nat.le_of_ble_eq_true rfl, Nat.le_of_ble_eq_true rfl⟩ (fun r_3 u_4 H locs hw_2 hP hD hS => ?_)
    obtain rfl : r_3 = nI (kd (bY f a9)) := hw_2
    refine lv_bipush (v := 12) hx hb dX0_valueHigh_17 (by decide) ?_
    refine lv_icmp_ne (tgt := 31) hx hb dX0_valueHigh_19 (by decide) (fun c_5 => ?_) (fun c_5 => ?_)
    · skip
      refine lv_aload_n hx hb dX0_valueHigh_31 rfl (lv_at hl 0 rfl) ?_
      refine lv_aload_n hx hb dX0_valueHigh_32 rfl (lv_at hl 0 rfl) ?_
      refine va_get (D := (dC, dI)) (ci := 0) (v := .int (nI a9)) (C := RX0) (T := TX0) (N := 6) hx hb hts hin0 hown hK hP 0 rfl rfl 3 (by decide) fl20 (fun _ h9 => h9) rfl dX0_valueHigh_33 ?_
      refine gvl (As := [.int (nI a9)]) (rest := []) ⟨hx, hb, hml, hown, hts⟩ (c_X0_numberAt l dC dI tk tw h a b cB cJ _ f g zs zc (nI a9) zo a9 (by have q7 := hd_le _ (bY_lt f a9); omega)) (cwV 1 hts gX0_valueHigh_X0_numberAt rfl rfl rfl (by decide +kernel) ⟨Nat.le_of_ble_eq_true rfl, Nat.le_of_ble_eq_true rfl⟩) hK hP hD hS hA hZ (q0 := 0) (ci := 0) rfl rfl rfl rfl hl.1 rfl (Nat.le_of_ble_eq_true rfl) dX0_valueHigh_36 ⟨Nat.le_of_ble_eq_true rfl, Nat.le_of_ble_eq_true rfl⟩ (fun r_7 u_8 H locs hw_6 hP hD hS => ?_)
      obtain rfl : r_7 = nv (bY f) a9 := hw_6
      refine lv_bipush (v := 32) hx hb dX0_valueHigh_39 (by decide) ?_
      refine lv_lushr hx hb dX0_valueHigh_41 rfl ?_
      refine lv_l2i hx hb dX0_valueHigh_42 rfl ?_
      exact W.iret (v := (((nv (bY f) a9).toUInt64 >>> ((32 : Int32).toInt64.toUInt64 &&& Int64.toUInt64 63)).toInt64).toInt32) hx hb hr (fun t ht hW => ⟨⟨(((nv (bY f) a9).toUInt64 >>> ((32 : Int32).toInt64.toUInt64 &&& Int64.toUInt64 63)).toInt64).toInt32, (), rfl, (by have q8 := nI_e12 (kd (bY f a9)) (kd_le _ (bY_lt f a9)) 12 (by decide); unfold vh; rw [if_neg (fun z => c_5 (q8.mpr z))]), by rw [ht]; exact hP, va_K.moved hW.alike hK, hD⟩, hS.F ht⟩) hS.2.2 dX0_valueHigh_43
    · skip
      refine lv_aload_n hx hb dX0_valueHigh_22 rfl (lv_at hl 0 rfl) ?_
      refine lv_aload_n hx hb dX0_valueHigh_23 rfl (lv_at hl 0 rfl) ?_
      refine va_get (D := (dC, dI)) (ci := 0) (v := .int (nI a9)) (C := RX0) (T := TX0) (N := 6) hx hb hts hin0 hown hK hP 0 rfl rfl 3 (by decide) fl20 (fun _ h9 => h9) rfl dX0_valueHigh_24 ?_
      refine gvi (As := [.int (nI a9)]) (rest := []) ⟨hx, hb, hml, hown, hts⟩ (c_X0_typeAt l dC dI tk tw h a b cB cJ _ f g zs zc (nI a9) zo a9 h9) (cwV 1 hts gX0_valueHigh_X0_typeAt rfl rfl rfl (by decide +kernel) ⟨Nat.le_of_ble_eq_true rfl, Nat.le_of_ble_eq_true rfl⟩) hK hP hD hS hA hZ (q0 := 0) (ci := 0) rfl rfl rfl rfl hl.1 rfl (Nat.le_of_ble_eq_true rfl) dX0_valueHigh_27 ⟨Nat.le_of_ble_eq_true rfl, Nat.le_of_ble_eq_true rfl⟩ (fun r_10 u_11 H locs hw_9 hP hD hS => ?_)
      obtain rfl : r_10 = f (a9 + hd (bY f a9) - 1) := hw_9
      exact W.iret (v := f (a9 + hd (bY f a9) - 1)) hx hb hr (fun t ht hW => ⟨⟨f (a9 + hd (bY f a9) - 1), (), rfl, (by have q8 := nI_e12 (kd (bY f a9)) (kd_le _ (bY_lt f a9)) 12 (by decide); unfold vh; rw [if_pos (q8.mp c_5)]), by rw [ht]; exact hP, va_K.moved hW.alike hK, hD⟩, hS.F ht⟩) hS.2.2 dX0_valueHigh_30
  · skip
    exact absurd (nI_pos' (by omega)) c_1
set_option maxHeartbeats 4000000 in
set_option maxRecDepth 100000 in
theorem c_X0_valueHigh_n (l : Launch) (dC : Nat → ClassId) (dI : Nat → Nat → Nat) (tk tw : Nat) (h a b : Nat) (cB cJ : ClassId) (sz : Nat) (f : Nat → Int32) (g : Nat → Int64) (zs : Int32) (zc : Int32) (zo : Int32)  : Met l yX0_valueHigh wsX0_valueHigh ({ frames := 0, cells := 0, slots := 0, locals := 0 }) (va_Pc [.ref h] (pr dC dI (t0 cB cJ) (w0 h a b cB cJ f g zs zc (-1) zo) sz tk tw)) (va_Qi (fun (r : Int32) (_ : Unit) => r = 0) (fun (_ : Unit) => po dC dI (t0 cB cJ) (va_A (w0 h a b cB cJ f g zs zc (-1) zo) sz) (w0 h a b cB cJ f g zs zc (-1) zo)) (va_A (w0 h a b cB cJ f g zs zc (-1) zo) sz)) 0 0 (va_A (w0 h a b cB cJ f g zs zc (-1) zo) sz) := by
  refine Met.ofW (cc := cX0_valueHigh) (maxL := 1) (ret := (some .int)) (by decide) rfl ?_
  intro p e s m args below meth c s₁ Bd hml hv
  obtain ⟨rfl, hsz, hP, hK, hD0, hZ⟩ := hv
  have hx := Bd.exec
  have hb := Bd.bytes
  have hr := Bd.returns
  have hts := atoms_spec (ws := wsX0_valueHigh) Bd.pre
  have hown : s.vm.findClass RX0 = some m.cls := findClass_of_methodNamed Bd.named
  have hlocks := Bd.notSynchronized
  subst hsz
  have hD := hD0.self (sz := s.heap.size)
  generalize hAe : va_A (w0 h a b cB cJ f g zs zc (-1) zo) s.heap.size = A at hD hZ ⊢
  have hA : ∀ q : Nat, s.heap.size ≤ q → A q := fun q h => by rw [← hAe]; exact Or.inr h
  have hS : va_S A s.heap s.heap [] := va_S.rf
  have hP : va_P (dC, dI) vwCl (w0 h a b cB cJ f g zs zc (-1) zo) s.heap := hP
  have hin0 : ∀ w ∈ wsX00, w ∈ wsX0_valueHigh := by decide +kernel
  have fl20 := hts (.fieldLink RX0 20 "MessageReader" "given" "I") (by decide +kernel)
  have hl := lv_entry ([.ref h]) (n := 1) (Nat.le_of_ble_eq_true rfl)
  rw [lg_entry_eq]
  generalize (lg_sl ([.ref h]) ++ List.replicate (1 - (lg_sl ([.ref h])).length) Slot.unset).toArray = ls at hl ⊢
  have hl : lv_has ls 1 [(0, .ref h)] := hl
  refine lv_aload_n hx hb dX0_valueHigh_0 rfl (lv_at hl 0 rfl) ?_
  refine va_get (D := (dC, dI)) (ci := 0) (v := .int (-1)) (C := RX0) (T := TX0) (N := 6) hx hb hts hin0 hown hK hP 0 rfl rfl 3 (by decide) fl20 (fun _ h9 => h9) rfl dX0_valueHigh_1 ?_
  refine lv_if_ge (tgt := 9) hx hb dX0_valueHigh_4 (by decide) (fun c_1 => ?_) (fun c_1 => ?_)
  · skip
    exact absurd c_1 (by decide)
  · skip
    refine lv_iconst (v := 0) hx hb dX0_valueHigh_7 (by decide) ?_
    exact W.iret (v := 0) hx hb hr (fun t ht hW => ⟨⟨0, (), rfl, rfl, by rw [ht]; exact hP, va_K.moved hW.alike hK, hD⟩, hS.F ht⟩) hS.2.2 dX0_valueHigh_8
set_option maxHeartbeats 4000000 in
set_option maxRecDepth 100000 in
theorem c_X0_payload (l : Launch) (dC : Nat → ClassId) (dI : Nat → Nat → Nat) (tk tw : Nat) (h a b : Nat) (cB cJ : ClassId) (sz : Nat) (f : Nat → Int32) (g : Nat → Int64) (zs : Int32) (zc : Int32) (zo : Int32) (a9 v9 : Nat) (hv9 : pl (bY f) a9 = nI v9) (h9 : a9 + hd (bY f a9) + v9 ≤ 4096) (i9 : Int32) : Met l yX0_payload wsX0_payload ({ frames := 4, cells := 0, slots := 0, locals := 92 }) (va_Pc [.ref h, .int i9] (pr dC dI (t0 cB cJ) (w0 h a b cB cJ f g zs zc (nI a9) zo) sz tk tw)) (va_Qi (fun (r : Int32) (_ : Unit) => r = py f a9 i9) (fun (_ : Unit) => po dC dI (t0 cB cJ) (va_A (w0 h a b cB cJ f g zs zc (nI a9) zo) sz) (w0 h a b cB cJ f g zs zc (nI a9) zo)) (va_A (w0 h a b cB cJ f g zs zc (nI a9) zo) sz)) 0 0 (va_A (w0 h a b cB cJ f g zs zc (nI a9) zo) sz) := by
  refine Met.ofW (cc := cX0_payload) (maxL := 2) (ret := (some .int)) (by decide) rfl ?_
  intro p e s m args below meth c s₁ Bd hml hv
  obtain ⟨rfl, hsz, hP, hK, hD0, hZ⟩ := hv
  have hx := Bd.exec
  have hb := Bd.bytes
  have hr := Bd.returns
  have hts := atoms_spec (ws := wsX0_payload) Bd.pre
  have hown : s.vm.findClass RX0 = some m.cls := findClass_of_methodNamed Bd.named
  have hlocks := Bd.notSynchronized
  subst hsz
  have hD := hD0.self (sz := s.heap.size)
  generalize hAe : va_A (w0 h a b cB cJ f g zs zc (nI a9) zo) s.heap.size = A at hD hZ ⊢
  have hA : ∀ q : Nat, s.heap.size ≤ q → A q := fun q h => by rw [← hAe]; exact Or.inr h
  have hS : va_S A s.heap s.heap [] := va_S.rf
  have hP : va_P (dC, dI) vwCl (w0 h a b cB cJ f g zs zc (nI a9) zo) s.heap := hP
  have hin0 : ∀ w ∈ wsX00, w ∈ wsX0_payload := by decide +kernel
  have fl20 := hts (.fieldLink RX0 20 "MessageReader" "given" "I") (by decide +kernel)
  have hl := lv_entry ([.ref h, .int i9]) (n := 2) (Nat.le_of_ble_eq_true rfl)
  rw [lg_entry_eq]
  generalize (lg_sl ([.ref h, .int i9]) ++ List.replicate (2 - (lg_sl ([.ref h, .int i9])).length) Slot.unset).toArray = ls at hl ⊢
  have hl : lv_has ls 2 [(0, .ref h), (1, .int i9)] := hl
  refine lv_aload_n hx hb dX0_payload_0 rfl (lv_at hl 0 rfl) ?_
  refine va_get (D := (dC, dI)) (ci := 0) (v := .int (nI a9)) (C := RX0) (T := TX0) (N := 6) hx hb hts hin0 hown hK hP 0 rfl rfl 3 (by decide) fl20 (fun _ h9 => h9) rfl dX0_payload_1 ?_
  refine lv_if_lt (tgt := 23) hx hb dX0_payload_4 (by decide) (fun c_1 => ?_) (fun c_1 => ?_)
  · skip
    exact absurd c_1 (nI_pos (by omega))
  · skip
    refine lv_iload_n hx hb dX0_payload_7 rfl (lv_at hl 1 rfl) ?_
    refine lv_if_lt (tgt := 23) hx hb dX0_payload_8 (by decide) (fun c_2 => ?_) (fun c_2 => ?_)
    · skip
      refine lv_iconst (v := -1) hx hb dX0_payload_23 (by decide) ?_
      exact W.iret (v := -1) hx hb hr (fun t ht hW => ⟨⟨-1, (), rfl, (by unfold py; rw [if_pos c_2]), by rw [ht]; exact hP, va_K.moved hW.alike hK, hD⟩, hS.F ht⟩) hS.2.2 dX0_payload_24
    · skip
      refine lv_iload_n hx hb dX0_payload_11 rfl (lv_at hl 1 rfl) ?_
      refine lv_aload_n hx hb dX0_payload_12 rfl (lv_at hl 0 rfl) ?_
      refine lv_aload_n hx hb dX0_payload_13 rfl (lv_at hl 0 rfl) ?_
      refine va_get (D := (dC, dI)) (ci := 0) (v := .int (nI a9)) (C := RX0) (T := TX0) (N := 6) hx hb hts hin0 hown hK hP 0 rfl rfl 3 (by decide) fl20 (fun _ h9 => h9) rfl dX0_payload_14 ?_
      refine gvi (As := [.int (nI a9)]) (rest := [.int i9]) ⟨hx, hb, hml, hown, hts⟩ (c_X0_payloadLengthAt l dC dI tk tw h a b cB cJ _ f g zs zc (nI a9) zo a9 (by have q7 := hd_le _ (bY_lt f a9); omega)) (cwV 1 hts gX0_payload_X0_payloadLengthAt rfl rfl rfl (by decide +kernel) ⟨Nat.le_of_ble_eq_true rfl, Nat.le_of_ble_eq_true rfl⟩) hK hP hD hS hA hZ (q0 := 0) (ci := 0) rfl rfl rfl rfl hl.1 rfl (Nat.le_of_ble_eq_true rfl) dX0_payload_17 ⟨Nat.le_of_ble_eq_true rfl, Nat.le_of_ble_eq_true rfl⟩ (fun r_4 u_5 H locs hw_3 hP hD hS => ?_)
      obtain rfl : r_4 = pl (bY f) a9 := hw_3
      refine lv_icmp_lt (tgt := 25) hx hb dX0_payload_20 (by decide) (fun c_6 => ?_) (fun c_6 => ?_)
      · skip
        refine lv_aload_n hx hb dX0_payload_25 rfl (lv_at hl 0 rfl) ?_
        refine lv_aload_n hx hb dX0_payload_26 rfl (lv_at hl 0 rfl) ?_
        refine va_get (D := (dC, dI)) (ci := 0) (v := .int (nI a9)) (C := RX0) (T := TX0) (N := 6) hx hb hts hin0 hown hK hP 0 rfl rfl 3 (by decide) fl20 (fun _ h9 => h9) rfl dX0_payload_27 ?_
        refine lv_aload_n hx hb dX0_payload_30 rfl (lv_at hl 0 rfl) ?_
        refine lv_aload_n hx hb dX0_payload_31 rfl (lv_at hl 0 rfl) ?_
        refine va_get (D := (dC, dI)) (ci := 0) (v := .int (nI a9)) (C := RX0) (T := TX0) (N := 6) hx hb hts hin0 hown hK hP 0 rfl rfl 3 (by decide) fl20 (fun _ h9 => h9) rfl dX0_payload_32 ?_
        refine gvi (As := [.int (nI a9)]) (rest := [.int (nI a9), .ref h]) ⟨hx, hb, hml, hown, hts⟩ (c_X0_headLengthAt l dC dI tk tw h a b cB cJ _ f g zs zc (nI a9) zo a9 (by have q7 := hd_le _ (bY_lt f a9); omega)) (cwV 1 hts gX0_payload_X0_headLengthAt rfl rfl rfl (by decide +kernel) ⟨Nat.le_of_ble_eq_true rfl, Nat.le_of_ble_eq_true rfl⟩) hK hP hD hS hA hZ (q0 := 0) (ci := 0) rfl rfl rfl rfl hl.1 rfl (Nat.le_of_ble_eq_true rfl) dX0_payload_35 ⟨Nat.le_of_ble_eq_true rfl, Nat.le_of_ble_eq_true rfl⟩ (fun r_8 u_9 H locs hw_7 hP hD hS => ?_)
        obtain rfl : r_8 = nI (hd (bY f a9)) := hw_7
        refine lv_iadd hx hb dX0_payload_38 ?_
        refine lv_iload_n hx hb dX0_payload_39 rfl (lv_at hl 1 rfl) ?_
        refine lv_iadd hx hb dX0_payload_40 ?_
        have q6 : i9.toNatClampNeg < v9 := by have z := c_6; rw [hv9, ← nI_self c_2] at z; exact (nI_ltI (by have := (nI_of c_2); obtain ⟨j, hj, rfl⟩ := this; rw [nI_clamp hj]; exact hj) (by omega)).mp z
        have e_12 : (((nI a9) + (nI (hd (bY f a9)))) + i9 : Int32) = nI (a9 + hd (bY f a9) + i9.toNatClampNeg) := by rw [← nI_add, ← nI_add, nI_self c_2]
        rw [e_12]
        refine gvi (As := [.int (nI (a9 + hd (bY f a9) + i9.toNatClampNeg))]) (rest := []) ⟨hx, hb, hml, hown, hts⟩ (c_X0_storedByte l dC dI tk tw h a b cB cJ _ f g zs zc (nI a9) zo (a9 + hd (bY f a9) + i9.toNatClampNeg) (by omega)) (cwV 1 hts gX0_payload_X0_storedByte rfl rfl rfl (by decide +kernel) ⟨Nat.le_of_ble_eq_true rfl, Nat.le_of_ble_eq_true rfl⟩) hK hP hD hS hA hZ (q0 := 0) (ci := 0) rfl rfl rfl rfl hl.1 rfl (Nat.le_of_ble_eq_true rfl) dX0_payload_41 ⟨Nat.le_of_ble_eq_true rfl, Nat.le_of_ble_eq_true rfl⟩ (fun r_11 u_13 H locs hw_10 hP hD hS => ?_)
        obtain rfl : r_11 = nI (bY f (a9 + hd (bY f a9) + i9.toNatClampNeg)) := hw_10
        exact W.iret (v := nI (bY f (a9 + hd (bY f a9) + i9.toNatClampNeg))) hx hb hr (fun t ht hW => ⟨⟨nI (bY f (a9 + hd (bY f a9) + i9.toNatClampNeg)), (), rfl, (by unfold py; rw [if_neg c_2, if_pos c_6]), by rw [ht]; exact hP, va_K.moved hW.alike hK, hD⟩, hS.F ht⟩) hS.2.2 dX0_payload_44
      · skip
        refine lv_iconst (v := -1) hx hb dX0_payload_23 (by decide) ?_
        exact W.iret (v := -1) hx hb hr (fun t ht hW => ⟨⟨-1, (), rfl, (by unfold py; rw [if_neg c_2, if_neg c_6]), by rw [ht]; exact hP, va_K.moved hW.alike hK, hD⟩, hS.F ht⟩) hS.2.2 dX0_payload_24
set_option maxHeartbeats 4000000 in
set_option maxRecDepth 100000 in
theorem c_X0_payload_n (l : Launch) (dC : Nat → ClassId) (dI : Nat → Nat → Nat) (tk tw : Nat) (h a b : Nat) (cB cJ : ClassId) (sz : Nat) (f : Nat → Int32) (g : Nat → Int64) (zs : Int32) (zc : Int32) (zo : Int32) (i9 : Int32) : Met l yX0_payload wsX0_payload ({ frames := 0, cells := 0, slots := 0, locals := 0 }) (va_Pc [.ref h, .int i9] (pr dC dI (t0 cB cJ) (w0 h a b cB cJ f g zs zc (-1) zo) sz tk tw)) (va_Qi (fun (r : Int32) (_ : Unit) => r = -1) (fun (_ : Unit) => po dC dI (t0 cB cJ) (va_A (w0 h a b cB cJ f g zs zc (-1) zo) sz) (w0 h a b cB cJ f g zs zc (-1) zo)) (va_A (w0 h a b cB cJ f g zs zc (-1) zo) sz)) 0 0 (va_A (w0 h a b cB cJ f g zs zc (-1) zo) sz) := by
  refine Met.ofW (cc := cX0_payload) (maxL := 2) (ret := (some .int)) (by decide) rfl ?_
  intro p e s m args below meth c s₁ Bd hml hv
  obtain ⟨rfl, hsz, hP, hK, hD0, hZ⟩ := hv
  have hx := Bd.exec
  have hb := Bd.bytes
  have hr := Bd.returns
  have hts := atoms_spec (ws := wsX0_payload) Bd.pre
  have hown : s.vm.findClass RX0 = some m.cls := findClass_of_methodNamed Bd.named
  have hlocks := Bd.notSynchronized
  subst hsz
  have hD := hD0.self (sz := s.heap.size)
  generalize hAe : va_A (w0 h a b cB cJ f g zs zc (-1) zo) s.heap.size = A at hD hZ ⊢
  have hA : ∀ q : Nat, s.heap.size ≤ q → A q := fun q h => by rw [← hAe]; exact Or.inr h
  have hS : va_S A s.heap s.heap [] := va_S.rf
  have hP : va_P (dC, dI) vwCl (w0 h a b cB cJ f g zs zc (-1) zo) s.heap := hP
  have hin0 : ∀ w ∈ wsX00, w ∈ wsX0_payload := by decide +kernel
  have fl20 := hts (.fieldLink RX0 20 "MessageReader" "given" "I") (by decide +kernel)
  have hl := lv_entry ([.ref h, .int i9]) (n := 2) (Nat.le_of_ble_eq_true rfl)
  rw [lg_entry_eq]
  generalize (lg_sl ([.ref h, .int i9]) ++ List.replicate (2 - (lg_sl ([.ref h, .int i9])).length) Slot.unset).toArray = ls at hl ⊢
  have hl : lv_has ls 2 [(0, .ref h), (1, .int i9)] := hl
  refine lv_aload_n hx hb dX0_payload_0 rfl (lv_at hl 0 rfl) ?_
  refine va_get (D := (dC, dI)) (ci := 0) (v := .int (-1)) (C := RX0) (T := TX0) (N := 6) hx hb hts hin0 hown hK hP 0 rfl rfl 3 (by decide) fl20 (fun _ h9 => h9) rfl dX0_payload_1 ?_
  refine lv_if_lt (tgt := 23) hx hb dX0_payload_4 (by decide) (fun c_1 => ?_) (fun c_1 => ?_)
  · skip
    refine lv_iconst (v := -1) hx hb dX0_payload_23 (by decide) ?_
    exact W.iret (v := -1) hx hb hr (fun t ht hW => ⟨⟨-1, (), rfl, rfl, by rw [ht]; exact hP, va_K.moved hW.alike hK, hD⟩, hS.F ht⟩) hS.2.2 dX0_payload_24
  · skip
    exact absurd (by decide) c_1
set_option maxHeartbeats 4000000 in
set_option maxRecDepth 100000 in
theorem c_X0_level (l : Launch) (dC : Nat → ClassId) (dI : Nat → Nat → Nat) (tk tw : Nat) (h a b : Nat) (cB cJ : ClassId) (sz : Nat) (f : Nat → Int32) (g : Nat → Int64) (zs : Int32) (zc : Int32) (zg : Int32) (zo : Int32)  : Met l yX0_level wsX0_level ({ frames := 0, cells := 0, slots := 0, locals := 0 }) (va_Pc [.ref h] (pr dC dI (t0 cB cJ) (w0 h a b cB cJ f g zs zc zg zo) sz tk tw)) (va_Qi (fun (r : Int32) (_ : Unit) => r = zo) (fun (_ : Unit) => po dC dI (t0 cB cJ) (va_A (w0 h a b cB cJ f g zs zc zg zo) sz) (w0 h a b cB cJ f g zs zc zg zo)) (va_A (w0 h a b cB cJ f g zs zc zg zo) sz)) 0 0 (va_A (w0 h a b cB cJ f g zs zc zg zo) sz) := by
  refine Met.ofW (cc := cX0_level) (maxL := 1) (ret := (some .int)) (by decide) rfl ?_
  intro p e s m args below meth c s₁ Bd hml hv
  obtain ⟨rfl, hsz, hP, hK, hD0, hZ⟩ := hv
  have hx := Bd.exec
  have hb := Bd.bytes
  have hr := Bd.returns
  have hts := atoms_spec (ws := wsX0_level) Bd.pre
  have hown : s.vm.findClass RX0 = some m.cls := findClass_of_methodNamed Bd.named
  have hlocks := Bd.notSynchronized
  subst hsz
  have hD := hD0.self (sz := s.heap.size)
  generalize hAe : va_A (w0 h a b cB cJ f g zs zc zg zo) s.heap.size = A at hD hZ ⊢
  have hA : ∀ q : Nat, s.heap.size ≤ q → A q := fun q h => by rw [← hAe]; exact Or.inr h
  have hS : va_S A s.heap s.heap [] := va_S.rf
  have hP : va_P (dC, dI) vwCl (w0 h a b cB cJ f g zs zc zg zo) s.heap := hP
  have hin0 : ∀ w ∈ wsX00, w ∈ wsX0_level := by decide +kernel
  have fl27 := hts (.fieldLink RX0 27 "MessageReader" "open" "I") (by decide +kernel)
  have hl := lv_entry ([.ref h]) (n := 1) (Nat.le_of_ble_eq_true rfl)
  rw [lg_entry_eq]
  generalize (lg_sl ([.ref h]) ++ List.replicate (1 - (lg_sl ([.ref h])).length) Slot.unset).toArray = ls at hl ⊢
  have hl : lv_has ls 1 [(0, .ref h)] := hl
  refine lv_aload_n hx hb dX0_level_0 rfl (lv_at hl 0 rfl) ?_
  refine va_get (D := (dC, dI)) (ci := 0) (v := .int zo) (C := RX0) (T := TX0) (N := 6) hx hb hts hin0 hown hK hP 0 rfl rfl 5 (by decide) fl27 (fun _ h9 => h9) rfl dX0_level_1 ?_
  exact W.iret (v := zo) hx hb hr (fun t ht hW => ⟨⟨zo, (), rfl, rfl, by rw [ht]; exact hP, va_K.moved hW.alike hK, hD⟩, hS.F ht⟩) hS.2.2 dX0_level_4
set_option maxHeartbeats 4000000 in
set_option maxRecDepth 100000 in
theorem c_X0_consumed (l : Launch) (dC : Nat → ClassId) (dI : Nat → Nat → Nat) (tk tw : Nat) (h a b : Nat) (cB cJ : ClassId) (sz : Nat) (f : Nat → Int32) (g : Nat → Int64) (zs : Int32) (zc : Int32) (zg : Int32) (zo : Int32)  : Met l yX0_consumed wsX0_consumed ({ frames := 0, cells := 0, slots := 0, locals := 0 }) (va_Pc [.ref h] (pr dC dI (t0 cB cJ) (w0 h a b cB cJ f g zs zc zg zo) sz tk tw)) (va_Qi (fun (r : Int32) (_ : Unit) => r = zc) (fun (_ : Unit) => po dC dI (t0 cB cJ) (va_A (w0 h a b cB cJ f g zs zc zg zo) sz) (w0 h a b cB cJ f g zs zc zg zo)) (va_A (w0 h a b cB cJ f g zs zc zg zo) sz)) 0 0 (va_A (w0 h a b cB cJ f g zs zc zg zo) sz) := by
  refine Met.ofW (cc := cX0_consumed) (maxL := 1) (ret := (some .int)) (by decide) rfl ?_
  intro p e s m args below meth c s₁ Bd hml hv
  obtain ⟨rfl, hsz, hP, hK, hD0, hZ⟩ := hv
  have hx := Bd.exec
  have hb := Bd.bytes
  have hr := Bd.returns
  have hts := atoms_spec (ws := wsX0_consumed) Bd.pre
  have hown : s.vm.findClass RX0 = some m.cls := findClass_of_methodNamed Bd.named
  have hlocks := Bd.notSynchronized
  subst hsz
  have hD := hD0.self (sz := s.heap.size)
  generalize hAe : va_A (w0 h a b cB cJ f g zs zc zg zo) s.heap.size = A at hD hZ ⊢
  have hA : ∀ q : Nat, s.heap.size ≤ q → A q := fun q h => by rw [← hAe]; exact Or.inr h
  have hS : va_S A s.heap s.heap [] := va_S.rf
  have hP : va_P (dC, dI) vwCl (w0 h a b cB cJ f g zs zc zg zo) s.heap := hP
  have hin0 : ∀ w ∈ wsX00, w ∈ wsX0_consumed := by decide +kernel
  have fl17 := hts (.fieldLink RX0 17 "MessageReader" "consumed" "I") (by decide +kernel)
  have hl := lv_entry ([.ref h]) (n := 1) (Nat.le_of_ble_eq_true rfl)
  rw [lg_entry_eq]
  generalize (lg_sl ([.ref h]) ++ List.replicate (1 - (lg_sl ([.ref h])).length) Slot.unset).toArray = ls at hl ⊢
  have hl : lv_has ls 1 [(0, .ref h)] := hl
  refine lv_aload_n hx hb dX0_consumed_0 rfl (lv_at hl 0 rfl) ?_
  refine va_get (D := (dC, dI)) (ci := 0) (v := .int zc) (C := RX0) (T := TX0) (N := 6) hx hb hts hin0 hown hK hP 0 rfl rfl 2 (by decide) fl17 (fun _ h9 => h9) rfl dX0_consumed_1 ?_
  exact W.iret (v := zc) hx hb hr (fun t ht hW => ⟨⟨zc, (), rfl, rfl, by rw [ht]; exact hP, va_K.moved hW.alike hK, hD⟩, hS.F ht⟩) hS.2.2 dX0_consumed_4
end
section
set_option maxHeartbeats 4000000 in
set_option maxRecDepth 100000 in
theorem c_X0_whole (l : Launch) (dC : Nat → ClassId) (dI : Nat → Nat → Nat) (tk tw : Nat) (h a b : Nat) (cB cJ : ClassId) (sz : Nat) (f : Nat → Int32) (g : Nat → Int64) (zg : Int32) (zo : Int32) (n8 c9 : Nat) (hn8 : n8 ≤ 4096) (hc9 : c9 ≤ 4096) : Met l yX0_whole wsX0_whole ({ frames := 6, cells := 0, slots := 0, locals := 142 }) (va_Pc [.ref h] (pr dC dI (t0 cB cJ) (w0 h a b cB cJ f g (nI n8) (nI c9) zg zo) sz tk tw)) (va_Qi (fun (r : Int32) (_ : Unit) => r = nI (wh (bY f) n8 4096 c9)) (fun (_ : Unit) => po dC dI (t0 cB cJ) (va_A (w0 h a b cB cJ f g (nI n8) (nI c9) zg zo) sz) (w0 h a b cB cJ f g (nI n8) (nI c9) zg zo)) (va_A (w0 h a b cB cJ f g (nI n8) (nI c9) zg zo) sz)) 0 0 (va_A (w0 h a b cB cJ f g (nI n8) (nI c9) zg zo) sz) := by
  refine Met.ofW (cc := cX0_whole) (maxL := 4) (ret := (some .int)) (by decide) rfl ?_
  intro p e s m args below meth c s₁ Bd hml hv
  obtain ⟨rfl, hsz, hP, hK, hD0, hZ⟩ := hv
  have hx := Bd.exec
  have hb := Bd.bytes
  have hr := Bd.returns
  have hts := atoms_spec (ws := wsX0_whole) Bd.pre
  have hown : s.vm.findClass RX0 = some m.cls := findClass_of_methodNamed Bd.named
  have hlocks := Bd.notSynchronized
  subst hsz
  have hD := hD0.self (sz := s.heap.size)
  generalize hAe : va_A (w0 h a b cB cJ f g (nI n8) (nI c9) zg zo) s.heap.size = A at hD hZ ⊢
  have hA : ∀ q : Nat, s.heap.size ≤ q → A q := fun q h => by rw [← hAe]; exact Or.inr h
  have hS : va_S A s.heap s.heap [] := va_S.rf
  have hP : va_P (dC, dI) vwCl (w0 h a b cB cJ f g (nI n8) (nI c9) zg zo) s.heap := hP
  have hin0 : ∀ w ∈ wsX00, w ∈ wsX0_whole := by decide +kernel
  have fl17 := hts (.fieldLink RX0 17 "MessageReader" "consumed" "I") (by decide +kernel)
  have hl := lv_entry ([.ref h]) (n := 4) (Nat.le_of_ble_eq_true rfl)
  rw [lg_entry_eq]
  generalize (lg_sl ([.ref h]) ++ List.replicate (4 - (lg_sl ([.ref h])).length) Slot.unset).toArray = ls at hl ⊢
  have hl : lv_has ls 4 [(0, .ref h)] := hl
  refine lv_aload_n hx hb dX0_whole_0 rfl (lv_at hl 0 rfl) ?_
  refine va_get (D := (dC, dI)) (ci := 0) (v := .int (nI c9)) (C := RX0) (T := TX0) (N := 6) hx hb hts hin0 hown hK hP 0 rfl rfl 2 (by decide) fl17 (fun _ h9 => h9) rfl dX0_whole_1 ?_
  refine lv_istore_n (lv' := [(1, .int (nI c9)), (0, .ref h)]) hx hb dX0_whole_4 rfl hl (by decide) rfl (fun ls hl => ?_)
  refine lv_iconst (v := 0) hx hb dX0_whole_5 (by decide) ?_
  refine lv_istore_n (lv' := [(2, .int 0), (1, .int (nI c9)), (0, .ref h)]) hx hb dX0_whole_6 rfl hl (by decide) rfl (fun ls hl => ?_)
  have loop7 : ∀ (fz : Nat) (q i x : Nat), q < fz → i + q = 4096 → x ≤ 4096 → i + wh (bY f) n8 q x = wh (bY f) n8 4096 c9 → ∀ (H : Heap) (locs : List Loc), va_P (dC, dI) vwCl (w0 h a b cB cJ f g (nI n8) (nI c9) zg zo) H → va_D A (w0 h a b cB cJ f g (nI n8) (nI c9) zg zo) → va_S A s.heap H locs → ∀ ls : Array Slot, lv_has ls 4 [(0, .ref h), (1, .int (nI x)), (2, .int (nI i))] → W p l e (headSpec wsX0_whole ({ frames := 6, cells := 0, slots := 0, locals := 142 })).room s m ([.ref h]).toArray below meth c H locs 0 0 (MQ below (va_Qi (fun (r : Int32) (_ : Unit) => r = nI (wh (bY f) n8 4096 c9)) (fun (_ : Unit) => po dC dI (t0 cB cJ) A (w0 h a b cB cJ f g (nI n8) (nI c9) zg zo)) A) ([.ref h]).toArray s 0 0 A) (F0 m 7 ls []) := by
    intro fz
    induction fz with
    | zero =>
      intro q i x hq hi hx9 hw9 H locs hP hD hS ls hl
      exact absurd hq (Nat.not_lt_zero _)
    | succ fz ih =>
      intro q i x hq hi hx9 hw9 H locs hP hD hS ls hl
      refine lv_iload_n hx hb dX0_whole_7 rfl (lv_at hl 2 rfl) ?_
      refine lv_sipush (v := 4096) hx hb dX0_whole_8 (by decide) ?_
      refine lv_icmp_ge (tgt := 38) hx hb dX0_whole_11 (by decide) (fun c_1 => ?_) (fun c_1 => ?_)
      · skip
        have hq0 : q = 0 := by have z := (nI_leI (a := 4096) (b := i) (by decide) (by omega)).mp c_1; omega
        refine lv_sipush (v := 4096) hx hb dX0_whole_38 (by decide) ?_
        exact W.iret (v := 4096) hx hb hr (fun t ht hW => ⟨⟨4096, (), rfl, (by rw [← hw9, hq0, show i = 4096 by omega]; rfl), by rw [ht]; exact hP, va_K.moved hW.alike hK, hD⟩, hS.F ht⟩) hS.2.2 dX0_whole_41
      · skip
        obtain ⟨t, ht9⟩ : ∃ t, q = t + 1 := ⟨q - 1, by have z := (not_congr (nI_leI (a := 4096) (b := i) (by decide) (by omega))).mp c_1; omega⟩
        refine lv_aload_n hx hb dX0_whole_14 rfl (lv_at hl 0 rfl) ?_
        refine lv_iload_n hx hb dX0_whole_15 rfl (lv_at hl 1 rfl) ?_
        refine gvi (As := [.int (nI x)]) (rest := []) ⟨hx, hb, hml, hown, hts⟩ (c_X0_lastHeadFrom l dC dI tk tw h a b cB cJ _ f g (nI c9) zg zo n8 x hn8 hx9) (cwV 1 hts gX0_whole_X0_lastHeadFrom rfl rfl rfl (by decide +kernel) ⟨Nat.le_of_ble_eq_true rfl, Nat.le_of_ble_eq_true rfl⟩) hK hP hD hS hA hZ (q0 := 0) (ci := 0) rfl rfl rfl rfl hl.1 rfl (Nat.le_of_ble_eq_true rfl) dX0_whole_16 ⟨Nat.le_of_ble_eq_true rfl, Nat.le_of_ble_eq_true rfl⟩ (fun r_3 u_4 H locs hw_2 hP hD hS => ?_)
        obtain rfl : r_3 = wr (bY f) n8 4097 x 1 := hw_2
        refine lv_istore_n (lv' := [(3, .int (wr (bY f) n8 4097 x 1)), (0, .ref h), (1, .int (nI x)), (2, .int (nI i))]) hx hb dX0_whole_19 rfl hl (by decide) rfl (fun ls hl => ?_)
        refine lv_iload_n hx hb dX0_whole_20 rfl (lv_at hl 0 rfl) ?_
        refine lv_if_ge (tgt := 26) hx hb dX0_whole_21 (by decide) (fun c_5 => ?_) (fun c_5 => ?_)
        · skip
          have c_5x : ¬ wr (bY f) n8 4097 x 1 < 0 := Int32.not_lt.mpr c_5
          have c_5 := c_5x
          have q2 := wk_end (bY_lt f) hn8 hx9 c_5
          refine lv_aload_n hx hb dX0_whole_26 rfl (lv_at hl 1 rfl) ?_
          refine lv_iload_n hx hb dX0_whole_27 rfl (lv_at hl 0 rfl) ?_
          have e_8 : (wr (bY f) n8 4097 x 1 : Int32) = nI (wk (bY f) n8 4097 x 1).2 := q2.1
          rw [e_8]
          refine gvi (As := [.int (nI (wk (bY f) n8 4097 x 1).2)]) (rest := []) ⟨hx, hb, hml, hown, hts⟩ (c_X0_endAt l dC dI tk tw h a b cB cJ _ f g (nI n8) (nI c9) zg zo (wk (bY f) n8 4097 x 1).2 q2.2.2.1) (cwV 1 hts gX0_whole_X0_endAt rfl rfl rfl (by decide +kernel) ⟨Nat.le_of_ble_eq_true rfl, Nat.le_of_ble_eq_true rfl⟩) hK hP hD hS hA hZ (q0 := 0) (ci := 0) rfl rfl rfl rfl hl.1 rfl (Nat.le_of_ble_eq_true rfl) dX0_whole_28 ⟨Nat.le_of_ble_eq_true rfl, Nat.le_of_ble_eq_true rfl⟩ (fun r_7 u_9 H locs hw_6 hP hD hS => ?_)
          obtain rfl : r_7 = nI (nx (bY f) (wk (bY f) n8 4097 x 1).2) := hw_6.trans q2.2.2.2.1
          refine lv_istore_n (lv' := [(1, .int (nI (nx (bY f) (wk (bY f) n8 4097 x 1).2))), (3, .int (wr (bY f) n8 4097 x 1)), (0, .ref h), (2, .int (nI i))]) hx hb dX0_whole_31 rfl hl (by decide) rfl (fun ls hl => ?_)
          refine lv_iinc (v := nI (i + 1)) (lv' := [(2, .int (nI (i + 1))), (1, .int (nI (nx (bY f) (wk (bY f) n8 4097 x 1).2))), (3, .int (wr (bY f) n8 4097 x 1)), (0, .ref h)]) hx hb dX0_whole_32 hl (k := 3) rfl (nI_1 i) (by decide) rfl (fun ls hl => ?_)
          refine lv_goto (tgt := 7) hx hb dX0_whole_35 (by decide) ?_
          exact ih t (i + 1) (nx (bY f) (wk (bY f) n8 4097 x 1).2) (by omega) (by omega) (by have := q2.2.2.2.2.1; omega) (by rw [← hw9, ht9, wh_pos c_5]; omega) _ _ hP hD hS ls (lv_sub hl [3, 1, 0] rfl)
        · skip
          refine lv_iload_n hx hb dX0_whole_24 rfl (lv_at hl 3 rfl) ?_
          exact W.iret (v := nI i) hx hb hr (fun t ht hW => ⟨⟨nI i, (), rfl, (by rw [← hw9, ht9, wh_neg (Int32.not_le.mp c_5)]; rfl), by rw [ht]; exact hP, va_K.moved hW.alike hK, hD⟩, hS.F ht⟩) hS.2.2 dX0_whole_25
  exact loop7 (4096 + 1) 4096 0 c9 (by omega) rfl hc9 (by omega) _ _ hP hD hS ls (lv_sub hl [2, 1, 0] rfl)
set_option maxHeartbeats 4000000 in
set_option maxRecDepth 100000 in
theorem c_X0_next (l : Launch) (dC : Nat → ClassId) (dI : Nat → Nat → Nat) (tk tw : Nat) (h a b : Nat) (cB cJ : ClassId) (sz : Nat) (f : Nat → Int32) (g : Nat → Int64) (zg : Int32) (n8 c9 : Nat) (hn8 : n8 ≤ 4096) (hc9 : c9 ≤ 4096) (k9 : Nat) (hk9 : k9 ≤ 100) : Met l yX0_next wsX0_next ({ frames := 6, cells := 0, slots := 0, locals := 134 }) (va_Pc [.ref h] (pr dC dI (t0 cB cJ) (w0 h a b cB cJ f g (nI n8) (nI c9) zg (nI k9)) sz tk tw)) (va_Qi (fun (r : Int32) (u : (Nat → Int64) × Int32 × Int32 × Int32) => nxP f g n8 c9 zg k9 r u) (fun (u : (Nat → Int64) × Int32 × Int32 × Int32) => po dC dI (t0 cB cJ) (va_A (w0 h a b cB cJ f g (nI n8) (nI c9) zg (nI k9)) sz) (w0 h a b cB cJ f u.1 (nI n8) u.2.1 u.2.2.1 u.2.2.2)) (va_A (w0 h a b cB cJ f g (nI n8) (nI c9) zg (nI k9)) sz)) 0 0 (va_A (w0 h a b cB cJ f g (nI n8) (nI c9) zg (nI k9)) sz) := by
  refine Met.ofW (cc := cX0_next) (maxL := 4) (ret := (some .int)) (by decide) rfl ?_
  intro p e s m args below meth c s₁ Bd hml hv
  obtain ⟨rfl, hsz, hP, hK, hD0, hZ⟩ := hv
  have hx := Bd.exec
  have hb := Bd.bytes
  have hr := Bd.returns
  have hts := atoms_spec (ws := wsX0_next) Bd.pre
  have hown : s.vm.findClass RX0 = some m.cls := findClass_of_methodNamed Bd.named
  have hlocks := Bd.notSynchronized
  subst hsz
  have hD := hD0.self (sz := s.heap.size)
  generalize hAe : va_A (w0 h a b cB cJ f g (nI n8) (nI c9) zg (nI k9)) s.heap.size = A at hD hZ ⊢
  have hA : ∀ q : Nat, s.heap.size ≤ q → A q := fun q h => by rw [← hAe]; exact Or.inr h
  have hS : va_S A s.heap s.heap [] := va_S.rf
  have hP : va_P (dC, dI) vwCl (w0 h a b cB cJ f g (nI n8) (nI c9) zg (nI k9)) s.heap := hP
  have hin0 : ∀ w ∈ wsX00, w ∈ wsX0_next := by decide +kernel
  have fl17 := hts (.fieldLink RX0 17 "MessageReader" "consumed" "I") (by decide +kernel)
  have fl27 := hts (.fieldLink RX0 27 "MessageReader" "open" "I") (by decide +kernel)
  have hl := lv_entry ([.ref h]) (n := 4) (Nat.le_of_ble_eq_true rfl)
  rw [lg_entry_eq]
  generalize (lg_sl ([.ref h]) ++ List.replicate (4 - (lg_sl ([.ref h])).length) Slot.unset).toArray = ls at hl ⊢
  have hl : lv_has ls 4 [(0, .ref h)] := hl
  refine lv_aload_n hx hb dX0_next_0 rfl (lv_at hl 0 rfl) ?_
  refine lv_aload_n hx hb dX0_next_1 rfl (lv_at hl 0 rfl) ?_
  refine va_get (D := (dC, dI)) (ci := 0) (v := .int (nI c9)) (C := RX0) (T := TX0) (N := 6) hx hb hts hin0 hown hK hP 0 rfl rfl 2 (by decide) fl17 (fun _ h9 => h9) rfl dX0_next_2 ?_
  refine gvi (As := [.int (nI c9)]) (rest := []) ⟨hx, hb, hml, hown, hts⟩ (c_X0_lookAt l dC dI tk tw h a b cB cJ _ f g (nI c9) zg (nI k9) n8 c9 hn8 hc9) (cwV 1 hts gX0_next_X0_lookAt rfl rfl rfl (by decide +kernel) ⟨Nat.le_of_ble_eq_true rfl, Nat.le_of_ble_eq_true rfl⟩) hK hP hD hS hA hZ (q0 := 0) (ci := 0) rfl rfl rfl rfl hl.1 rfl (Nat.le_of_ble_eq_true rfl) dX0_next_5 ⟨Nat.le_of_ble_eq_true rfl, Nat.le_of_ble_eq_true rfl⟩ (fun r_2 u_3 H locs hw_1 hP hD hS => ?_)
  obtain rfl : r_2 = lkS (bY f) n8 c9 := hw_1
  refine lv_istore_n (lv' := [(1, .int (lkS (bY f) n8 c9)), (0, .ref h)]) hx hb dX0_next_8 rfl hl (by decide) rfl (fun ls hl => ?_)
  refine lv_iload_n hx hb dX0_next_9 rfl (lv_at hl 0 rfl) ?_
  refine lv_if_ge (tgt := 15) hx hb dX0_next_10 (by decide) (fun c_4 => ?_) (fun c_4 => ?_)
  · skip
    have q1 : ¬ lkS (bY f) n8 c9 < 0 := Int32.not_lt.mpr c_4
    have q2 := nx_eq (bY_lt f) hn8 hc9 q1
    refine lv_aload_n hx hb dX0_next_15 rfl (lv_at hl 1 rfl) ?_
    refine lv_aload_n hx hb dX0_next_16 rfl (lv_at hl 1 rfl) ?_
    refine va_get (D := (dC, dI)) (ci := 0) (v := .int (nI c9)) (C := RX0) (T := TX0) (N := 6) hx hb hts hin0 hown hK hP 0 rfl rfl 2 (by decide) fl17 (fun _ h9 => h9) rfl dX0_next_17 ?_
    refine gvl (As := [.int (nI c9)]) (rest := []) ⟨hx, hb, hml, hown, hts⟩ (c_X0_childrenAt l dC dI tk tw h a b cB cJ _ f g (nI n8) (nI c9) zg (nI k9) c9 (by have := q2.2.2.2; omega)) (cwV 1 hts gX0_next_X0_childrenAt rfl rfl rfl (by decide +kernel) ⟨Nat.le_of_ble_eq_true rfl, Nat.le_of_ble_eq_true rfl⟩) hK hP hD hS hA hZ (q0 := 0) (ci := 0) rfl rfl rfl rfl hl.1 rfl (Nat.le_of_ble_eq_true rfl) dX0_next_20 ⟨Nat.le_of_ble_eq_true rfl, Nat.le_of_ble_eq_true rfl⟩ (fun r_6 u_7 H locs hw_5 hP hD hS => ?_)
    obtain rfl : r_6 = ch (bY f) c9 := hw_5
    refine lv_lstore_n (lv' := [(2, .long (ch (bY f) c9)), (1, .int (lkS (bY f) n8 c9)), (0, .ref h)]) hx hb dX0_next_23 rfl hl (by decide) rfl (fun ls hl => ?_)
    refine lv_lload_n hx hb dX0_next_24 rfl (lv_at hl 0 rfl) ?_
    refine lv_lconst (v := 0) hx hb dX0_next_25 (by decide) ?_
    refine W.lcmp hx hb dX0_next_26 ?_
    refine lv_if_le (tgt := 42) hx hb dX0_next_27 (by decide) (fun c_8 => ?_) (fun c_8 => ?_)
    · skip
      have c_8 := (lg_cmp_le (ch (bY f) c9) (0 : Int64)).mp c_8
      refine lv_aload_n hx hb dX0_next_42 rfl (lv_at hl 2 rfl) ?_
      refine gvv (As := []) (rest := []) ⟨hx, hb, hml, hown, hts⟩ (c_X0_countChild l dC dI tk tw h a b cB cJ _ f g (nI n8) (nI c9) zg k9 hk9) (cwV 0 hts gX0_next_X0_countChild rfl rfl rfl (by decide +kernel) ⟨Nat.le_of_ble_eq_true rfl, Nat.le_of_ble_eq_true rfl⟩) hK hP hD hS hA hZ (q0 := 0) (ci := 0) rfl rfl rfl rfl hl.1 rfl (Nat.le_of_ble_eq_true rfl) dX0_next_43 ⟨Nat.le_of_ble_eq_true rfl, Nat.le_of_ble_eq_true rfl⟩ (fun u_11 H locs hw_9 hP hD hS => ?_)
      have hP : va_P (dC, dI) vwCl (w0 h a b cB cJ f (cc1 g k9) (nI n8) (nI c9) zg (nI k9)) H := hP
      have hD : va_D A (w0 h a b cB cJ f (cc1 g k9) (nI n8) (nI c9) zg (nI k9)) := hD
      refine lv_aload_n hx hb dX0_next_46 rfl (lv_at hl 2 rfl) ?_
      refine lv_lload_n hx hb dX0_next_47 rfl (lv_at hl 0 rfl) ?_
      refine gvv (As := [.long (ch (bY f) c9)]) (rest := []) ⟨hx, hb, hml, hown, hts⟩ (c_X0_openContainer l dC dI tk tw h a b cB cJ _ f (cc1 g k9) (nI n8) (nI c9) zg (ch (bY f) c9) k9 hk9) (cwV 1 hts gX0_next_X0_openContainer rfl rfl rfl (by decide +kernel) ⟨Nat.le_of_ble_eq_true rfl, Nat.le_of_ble_eq_true rfl⟩) hK hP hD hS hA hZ (q0 := 0) (ci := 0) rfl rfl rfl rfl hl.1 rfl (Nat.le_of_ble_eq_true rfl) dX0_next_48 ⟨Nat.le_of_ble_eq_true rfl, Nat.le_of_ble_eq_true rfl⟩ (fun u_14 H locs hw_12 hP hD hS => ?_)
      have hP : va_P (dC, dI) vwCl (w0 h a b cB cJ f (og (cc1 g k9) k9 (ch (bY f) c9)) (nI n8) (nI c9) zg (nI (ok k9 (ch (bY f) c9)))) H := hP
      have hD : va_D A (w0 h a b cB cJ f (og (cc1 g k9) k9 (ch (bY f) c9)) (nI n8) (nI c9) zg (nI (ok k9 (ch (bY f) c9)))) := hD
      refine lv_aload_n hx hb dX0_next_51 rfl (lv_at hl 2 rfl) ?_
      refine gvv (As := []) (rest := []) ⟨hx, hb, hml, hown, hts⟩ (c_X0_closeFinished l dC dI tk tw h a b cB cJ _ f (og (cc1 g k9) k9 (ch (bY f) c9)) (nI n8) (nI c9) zg (ok k9 (ch (bY f) c9)) (ok_le hk9)) (cwV 0 hts gX0_next_X0_closeFinished rfl rfl rfl (by decide +kernel) ⟨Nat.le_of_ble_eq_true rfl, Nat.le_of_ble_eq_true rfl⟩) hK hP hD hS hA hZ (q0 := 0) (ci := 0) rfl rfl rfl rfl hl.1 rfl (Nat.le_of_ble_eq_true rfl) dX0_next_52 ⟨Nat.le_of_ble_eq_true rfl, Nat.le_of_ble_eq_true rfl⟩ (fun u_17 H locs hw_15 hP hD hS => ?_)
      have hP : va_P (dC, dI) vwCl (w0 h a b cB cJ f (og (cc1 g k9) k9 (ch (bY f) c9)) (nI n8) (nI c9) zg (nI (cl (og (cc1 g k9) k9 (ch (bY f) c9)) (ok k9 (ch (bY f) c9))))) H := hP
      have hD : va_D A (w0 h a b cB cJ f (og (cc1 g k9) k9 (ch (bY f) c9)) (nI n8) (nI c9) zg (nI (cl (og (cc1 g k9) k9 (ch (bY f) c9)) (ok k9 (ch (bY f) c9))))) := hD
      refine lv_aload_n hx hb dX0_next_55 rfl (lv_at hl 2 rfl) ?_
      refine lv_aload_n hx hb dX0_next_56 rfl (lv_at hl 2 rfl) ?_
      refine va_get (D := (dC, dI)) (ci := 0) (v := .int (nI c9)) (C := RX0) (T := TX0) (N := 6) hx hb hts hin0 hown hK hP 0 rfl rfl 2 (by decide) fl17 (fun _ h9 => h9) rfl dX0_next_57 ?_
      refine gvv (As := [.int (nI c9)]) (rest := []) ⟨hx, hb, hml, hown, hts⟩ (c_X0_consume l dC dI tk tw h a b cB cJ _ f (og (cc1 g k9) k9 (ch (bY f) c9)) (nI n8) (nI c9) zg (nI (cl (og (cc1 g k9) k9 (ch (bY f) c9)) (ok k9 (ch (bY f) c9)))) c9 (by have := q2.2.2.2; omega)) (cwV 1 hts gX0_next_X0_consume rfl rfl rfl (by decide +kernel) ⟨Nat.le_of_ble_eq_true rfl, Nat.le_of_ble_eq_true rfl⟩) hK hP hD hS hA hZ (q0 := 0) (ci := 0) rfl rfl rfl rfl hl.1 rfl (Nat.le_of_ble_eq_true rfl) dX0_next_60 ⟨Nat.le_of_ble_eq_true rfl, Nat.le_of_ble_eq_true rfl⟩ (fun u_20 H locs hw_18 hP hD hS => ?_)
      have hP : va_P (dC, dI) vwCl (w0 h a b cB cJ f (og (cc1 g k9) k9 (ch (bY f) c9)) (nI n8) (nI c9 + nI (hd (bY f c9)) + pl (bY f) c9) (nI c9) (nI (cl (og (cc1 g k9) k9 (ch (bY f) c9)) (ok k9 (ch (bY f) c9))))) H := hP
      have hD : va_D A (w0 h a b cB cJ f (og (cc1 g k9) k9 (ch (bY f) c9)) (nI n8) (nI c9 + nI (hd (bY f c9)) + pl (bY f) c9) (nI c9) (nI (cl (og (cc1 g k9) k9 (ch (bY f) c9)) (ok k9 (ch (bY f) c9))))) := hD
      refine lv_iload_n hx hb dX0_next_63 rfl (lv_at hl 1 rfl) ?_
      have hP9 : va_P (dC, dI) vwCl ((fun (u : (Nat → Int64) × Int32 × Int32 × Int32) => w0 h a b cB cJ f u.1 (nI n8) u.2.1 u.2.2.1 u.2.2.2) ((og (cc1 g k9) k9 (ch (bY f) c9), nI c9 + nI (hd (bY f c9)) + pl (bY f) c9, nI c9, nI (cl (og (cc1 g k9) k9 (ch (bY f) c9)) (ok k9 (ch (bY f) c9)))))) H := hP
      have hD9 : va_D A ((fun (u : (Nat → Int64) × Int32 × Int32 × Int32) => w0 h a b cB cJ f u.1 (nI n8) u.2.1 u.2.2.1 u.2.2.2) ((og (cc1 g k9) k9 (ch (bY f) c9), nI c9 + nI (hd (bY f c9)) + pl (bY f) c9, nI c9, nI (cl (og (cc1 g k9) k9 (ch (bY f) c9)) (ok k9 (ch (bY f) c9)))))) := hD
      exact W.iret (v := lkS (bY f) n8 c9) hx hb hr (fun t ht hW => ⟨⟨lkS (bY f) n8 c9, (og (cc1 g k9) k9 (ch (bY f) c9), nI c9 + nI (hd (bY f c9)) + pl (bY f) c9, nI c9, nI (cl (og (cc1 g k9) k9 (ch (bY f) c9)) (ok k9 (ch (bY f) c9)))), rfl, (Or.inr (Or.inr ⟨q1, fun z => Int64.not_lt.mpr c_8 z.1, rfl, by rw [q2.1]⟩)), by rw [ht]; exact hP9, va_K.moved hW.alike hK, hD9⟩, hS.F ht⟩) hS.2.2 dX0_next_64
    · skip
      have c_8 := (not_congr (lg_cmp_le (ch (bY f) c9) (0 : Int64))).mp c_8
      refine lv_aload_n hx hb dX0_next_30 rfl (lv_at hl 2 rfl) ?_
      refine va_get (D := (dC, dI)) (ci := 0) (v := .int (nI k9)) (C := RX0) (T := TX0) (N := 6) hx hb hts hin0 hown hK hP 0 rfl rfl 5 (by decide) fl27 (fun _ h9 => h9) rfl dX0_next_31 ?_
      refine lv_bipush (v := 100) hx hb dX0_next_34 (by decide) ?_
      refine lv_icmp_ne (tgt := 42) hx hb dX0_next_36 (by decide) (fun c_21 => ?_) (fun c_21 => ?_)
      · skip
        refine lv_aload_n hx hb dX0_next_42 rfl (lv_at hl 2 rfl) ?_
        refine gvv (As := []) (rest := []) ⟨hx, hb, hml, hown, hts⟩ (c_X0_countChild l dC dI tk tw h a b cB cJ _ f g (nI n8) (nI c9) zg k9 hk9) (cwV 0 hts gX0_next_X0_countChild rfl rfl rfl (by decide +kernel) ⟨Nat.le_of_ble_eq_true rfl, Nat.le_of_ble_eq_true rfl⟩) hK hP hD hS hA hZ (q0 := 0) (ci := 0) rfl rfl rfl rfl hl.1 rfl (Nat.le_of_ble_eq_true rfl) dX0_next_43 ⟨Nat.le_of_ble_eq_true rfl, Nat.le_of_ble_eq_true rfl⟩ (fun u_24 H locs hw_22 hP hD hS => ?_)
        have hP : va_P (dC, dI) vwCl (w0 h a b cB cJ f (cc1 g k9) (nI n8) (nI c9) zg (nI k9)) H := hP
        have hD : va_D A (w0 h a b cB cJ f (cc1 g k9) (nI n8) (nI c9) zg (nI k9)) := hD
        refine lv_aload_n hx hb dX0_next_46 rfl (lv_at hl 2 rfl) ?_
        refine lv_lload_n hx hb dX0_next_47 rfl (lv_at hl 0 rfl) ?_
        refine gvv (As := [.long (ch (bY f) c9)]) (rest := []) ⟨hx, hb, hml, hown, hts⟩ (c_X0_openContainer l dC dI tk tw h a b cB cJ _ f (cc1 g k9) (nI n8) (nI c9) zg (ch (bY f) c9) k9 hk9) (cwV 1 hts gX0_next_X0_openContainer rfl rfl rfl (by decide +kernel) ⟨Nat.le_of_ble_eq_true rfl, Nat.le_of_ble_eq_true rfl⟩) hK hP hD hS hA hZ (q0 := 0) (ci := 0) rfl rfl rfl rfl hl.1 rfl (Nat.le_of_ble_eq_true rfl) dX0_next_48 ⟨Nat.le_of_ble_eq_true rfl, Nat.le_of_ble_eq_true rfl⟩ (fun u_27 H locs hw_25 hP hD hS => ?_)
        have hP : va_P (dC, dI) vwCl (w0 h a b cB cJ f (og (cc1 g k9) k9 (ch (bY f) c9)) (nI n8) (nI c9) zg (nI (ok k9 (ch (bY f) c9)))) H := hP
        have hD : va_D A (w0 h a b cB cJ f (og (cc1 g k9) k9 (ch (bY f) c9)) (nI n8) (nI c9) zg (nI (ok k9 (ch (bY f) c9)))) := hD
        refine lv_aload_n hx hb dX0_next_51 rfl (lv_at hl 2 rfl) ?_
        refine gvv (As := []) (rest := []) ⟨hx, hb, hml, hown, hts⟩ (c_X0_closeFinished l dC dI tk tw h a b cB cJ _ f (og (cc1 g k9) k9 (ch (bY f) c9)) (nI n8) (nI c9) zg (ok k9 (ch (bY f) c9)) (ok_le hk9)) (cwV 0 hts gX0_next_X0_closeFinished rfl rfl rfl (by decide +kernel) ⟨Nat.le_of_ble_eq_true rfl, Nat.le_of_ble_eq_true rfl⟩) hK hP hD hS hA hZ (q0 := 0) (ci := 0) rfl rfl rfl rfl hl.1 rfl (Nat.le_of_ble_eq_true rfl) dX0_next_52 ⟨Nat.le_of_ble_eq_true rfl, Nat.le_of_ble_eq_true rfl⟩ (fun u_30 H locs hw_28 hP hD hS => ?_)
        have hP : va_P (dC, dI) vwCl (w0 h a b cB cJ f (og (cc1 g k9) k9 (ch (bY f) c9)) (nI n8) (nI c9) zg (nI (cl (og (cc1 g k9) k9 (ch (bY f) c9)) (ok k9 (ch (bY f) c9))))) H := hP
        have hD : va_D A (w0 h a b cB cJ f (og (cc1 g k9) k9 (ch (bY f) c9)) (nI n8) (nI c9) zg (nI (cl (og (cc1 g k9) k9 (ch (bY f) c9)) (ok k9 (ch (bY f) c9))))) := hD
        refine lv_aload_n hx hb dX0_next_55 rfl (lv_at hl 2 rfl) ?_
        refine lv_aload_n hx hb dX0_next_56 rfl (lv_at hl 2 rfl) ?_
        refine va_get (D := (dC, dI)) (ci := 0) (v := .int (nI c9)) (C := RX0) (T := TX0) (N := 6) hx hb hts hin0 hown hK hP 0 rfl rfl 2 (by decide) fl17 (fun _ h9 => h9) rfl dX0_next_57 ?_
        refine gvv (As := [.int (nI c9)]) (rest := []) ⟨hx, hb, hml, hown, hts⟩ (c_X0_consume l dC dI tk tw h a b cB cJ _ f (og (cc1 g k9) k9 (ch (bY f) c9)) (nI n8) (nI c9) zg (nI (cl (og (cc1 g k9) k9 (ch (bY f) c9)) (ok k9 (ch (bY f) c9)))) c9 (by have := q2.2.2.2; omega)) (cwV 1 hts gX0_next_X0_consume rfl rfl rfl (by decide +kernel) ⟨Nat.le_of_ble_eq_true rfl, Nat.le_of_ble_eq_true rfl⟩) hK hP hD hS hA hZ (q0 := 0) (ci := 0) rfl rfl rfl rfl hl.1 rfl (Nat.le_of_ble_eq_true rfl) dX0_next_60 ⟨Nat.le_of_ble_eq_true rfl, Nat.le_of_ble_eq_true rfl⟩ (fun u_33 H locs hw_31 hP hD hS => ?_)
        have hP : va_P (dC, dI) vwCl (w0 h a b cB cJ f (og (cc1 g k9) k9 (ch (bY f) c9)) (nI n8) (nI c9 + nI (hd (bY f c9)) + pl (bY f) c9) (nI c9) (nI (cl (og (cc1 g k9) k9 (ch (bY f) c9)) (ok k9 (ch (bY f) c9))))) H := hP
        have hD : va_D A (w0 h a b cB cJ f (og (cc1 g k9) k9 (ch (bY f) c9)) (nI n8) (nI c9 + nI (hd (bY f c9)) + pl (bY f) c9) (nI c9) (nI (cl (og (cc1 g k9) k9 (ch (bY f) c9)) (ok k9 (ch (bY f) c9))))) := hD
        refine lv_iload_n hx hb dX0_next_63 rfl (lv_at hl 1 rfl) ?_
        have hP9 : va_P (dC, dI) vwCl ((fun (u : (Nat → Int64) × Int32 × Int32 × Int32) => w0 h a b cB cJ f u.1 (nI n8) u.2.1 u.2.2.1 u.2.2.2) ((og (cc1 g k9) k9 (ch (bY f) c9), nI c9 + nI (hd (bY f c9)) + pl (bY f) c9, nI c9, nI (cl (og (cc1 g k9) k9 (ch (bY f) c9)) (ok k9 (ch (bY f) c9)))))) H := hP
        have hD9 : va_D A ((fun (u : (Nat → Int64) × Int32 × Int32 × Int32) => w0 h a b cB cJ f u.1 (nI n8) u.2.1 u.2.2.1 u.2.2.2) ((og (cc1 g k9) k9 (ch (bY f) c9), nI c9 + nI (hd (bY f c9)) + pl (bY f) c9, nI c9, nI (cl (og (cc1 g k9) k9 (ch (bY f) c9)) (ok k9 (ch (bY f) c9)))))) := hD
        exact W.iret (v := lkS (bY f) n8 c9) hx hb hr (fun t ht hW => ⟨⟨lkS (bY f) n8 c9, (og (cc1 g k9) k9 (ch (bY f) c9), nI c9 + nI (hd (bY f c9)) + pl (bY f) c9, nI c9, nI (cl (og (cc1 g k9) k9 (ch (bY f) c9)) (ok k9 (ch (bY f) c9)))), rfl, (Or.inr (Or.inr ⟨q1, fun z => c_21 (by rw [z.2]; rfl), rfl, by rw [q2.1]⟩)), by rw [ht]; exact hP9, va_K.moved hW.alike hK, hD9⟩, hS.F ht⟩) hS.2.2 dX0_next_64
      · skip
        refine lv_bipush (v := -5) hx hb dX0_next_39 (by decide) ?_
        have hP9 : va_P (dC, dI) vwCl ((fun (u : (Nat → Int64) × Int32 × Int32 × Int32) => w0 h a b cB cJ f u.1 (nI n8) u.2.1 u.2.2.1 u.2.2.2) ((g, nI c9, zg, nI k9))) H := hP
        have hD9 : va_D A ((fun (u : (Nat → Int64) × Int32 × Int32 × Int32) => w0 h a b cB cJ f u.1 (nI n8) u.2.1 u.2.2.1 u.2.2.2) ((g, nI c9, zg, nI k9))) := hD
        exact W.iret (v := -5) hx hb hr (fun t ht hW => ⟨⟨-5, (g, nI c9, zg, nI k9), rfl, (Or.inr (Or.inl ⟨q1, Int64.not_le.mp c_8, (nI_eq (b := 100) (by omega) (by decide)).mp c_21, rfl, rfl⟩)), by rw [ht]; exact hP9, va_K.moved hW.alike hK, hD9⟩, hS.F ht⟩) hS.2.2 dX0_next_41
  · skip
    refine lv_iload_n hx hb dX0_next_13 rfl (lv_at hl 0 rfl) ?_
    have hP9 : va_P (dC, dI) vwCl ((fun (u : (Nat → Int64) × Int32 × Int32 × Int32) => w0 h a b cB cJ f u.1 (nI n8) u.2.1 u.2.2.1 u.2.2.2) ((g, nI c9, zg, nI k9))) H := hP
    have hD9 : va_D A ((fun (u : (Nat → Int64) × Int32 × Int32 × Int32) => w0 h a b cB cJ f u.1 (nI n8) u.2.1 u.2.2.1 u.2.2.2) ((g, nI c9, zg, nI k9))) := hD
    exact W.iret (v := lkS (bY f) n8 c9) hx hb hr (fun t ht hW => ⟨⟨lkS (bY f) n8 c9, (g, nI c9, zg, nI k9), rfl, (Or.inl ⟨Int32.not_le.mp c_4, rfl, rfl⟩), by rw [ht]; exact hP9, va_K.moved hW.alike hK, hD9⟩, hS.F ht⟩) hS.2.2 dX0_next_14
set_option maxHeartbeats 4000000 in
set_option maxRecDepth 100000 in
theorem c_X0_skip (l : Launch) (dC : Nat → ClassId) (dI : Nat → Nat → Nat) (tk tw : Nat) (h a b : Nat) (cB cJ : ClassId) (sz : Nat) (f : Nat → Int32) (g : Nat → Int64) (zg : Int32) (n8 c9 : Nat) (hn8 : n8 ≤ 4096) (hc9 : c9 ≤ 4096) (k9 : Nat) (hk9 : k9 ≤ 100) : Met l yX0_skip wsX0_skip ({ frames := 6, cells := 0, slots := 0, locals := 142 }) (va_Pc [.ref h] (pr dC dI (t0 cB cJ) (w0 h a b cB cJ f g (nI n8) (nI c9) zg (nI k9)) sz tk tw)) (va_Qi (fun (r : Int32) (u : (Nat → Int64) × Int32 × Int32 × Int32) => skP f g n8 c9 zg k9 r u) (fun (u : (Nat → Int64) × Int32 × Int32 × Int32) => po dC dI (t0 cB cJ) (va_A (w0 h a b cB cJ f g (nI n8) (nI c9) zg (nI k9)) sz) (w0 h a b cB cJ f u.1 (nI n8) u.2.1 u.2.2.1 u.2.2.2)) (va_A (w0 h a b cB cJ f g (nI n8) (nI c9) zg (nI k9)) sz)) 0 0 (va_A (w0 h a b cB cJ f g (nI n8) (nI c9) zg (nI k9)) sz) := by
  refine Met.ofW (cc := cX0_skip) (maxL := 3) (ret := (some .int)) (by decide) rfl ?_
  intro p e s m args below meth c s₁ Bd hml hv
  obtain ⟨rfl, hsz, hP, hK, hD0, hZ⟩ := hv
  have hx := Bd.exec
  have hb := Bd.bytes
  have hr := Bd.returns
  have hts := atoms_spec (ws := wsX0_skip) Bd.pre
  have hown : s.vm.findClass RX0 = some m.cls := findClass_of_methodNamed Bd.named
  have hlocks := Bd.notSynchronized
  subst hsz
  have hD := hD0.self (sz := s.heap.size)
  generalize hAe : va_A (w0 h a b cB cJ f g (nI n8) (nI c9) zg (nI k9)) s.heap.size = A at hD hZ ⊢
  have hA : ∀ q : Nat, s.heap.size ≤ q → A q := fun q h => by rw [← hAe]; exact Or.inr h
  have hS : va_S A s.heap s.heap [] := va_S.rf
  have hP : va_P (dC, dI) vwCl (w0 h a b cB cJ f g (nI n8) (nI c9) zg (nI k9)) s.heap := hP
  have hin0 : ∀ w ∈ wsX00, w ∈ wsX0_skip := by decide +kernel
  have fl17 := hts (.fieldLink RX0 17 "MessageReader" "consumed" "I") (by decide +kernel)
  have hl := lv_entry ([.ref h]) (n := 3) (Nat.le_of_ble_eq_true rfl)
  rw [lg_entry_eq]
  generalize (lg_sl ([.ref h]) ++ List.replicate (3 - (lg_sl ([.ref h])).length) Slot.unset).toArray = ls at hl ⊢
  have hl : lv_has ls 3 [(0, .ref h)] := hl
  refine lv_aload_n hx hb dX0_skip_0 rfl (lv_at hl 0 rfl) ?_
  refine lv_aload_n hx hb dX0_skip_1 rfl (lv_at hl 0 rfl) ?_
  refine va_get (D := (dC, dI)) (ci := 0) (v := .int (nI c9)) (C := RX0) (T := TX0) (N := 6) hx hb hts hin0 hown hK hP 0 rfl rfl 2 (by decide) fl17 (fun _ h9 => h9) rfl dX0_skip_2 ?_
  refine gvi (As := [.int (nI c9)]) (rest := []) ⟨hx, hb, hml, hown, hts⟩ (c_X0_lastHeadFrom l dC dI tk tw h a b cB cJ _ f g (nI c9) zg (nI k9) n8 c9 hn8 hc9) (cwV 1 hts gX0_skip_X0_lastHeadFrom rfl rfl rfl (by decide +kernel) ⟨Nat.le_of_ble_eq_true rfl, Nat.le_of_ble_eq_true rfl⟩) hK hP hD hS hA hZ (q0 := 0) (ci := 0) rfl rfl rfl rfl hl.1 rfl (Nat.le_of_ble_eq_true rfl) dX0_skip_5 ⟨Nat.le_of_ble_eq_true rfl, Nat.le_of_ble_eq_true rfl⟩ (fun r_2 u_3 H locs hw_1 hP hD hS => ?_)
  obtain rfl : r_2 = wr (bY f) n8 4097 c9 1 := hw_1
  refine lv_istore_n (lv' := [(1, .int (wr (bY f) n8 4097 c9 1)), (0, .ref h)]) hx hb dX0_skip_8 rfl hl (by decide) rfl (fun ls hl => ?_)
  refine lv_iload_n hx hb dX0_skip_9 rfl (lv_at hl 0 rfl) ?_
  refine lv_if_ge (tgt := 15) hx hb dX0_skip_10 (by decide) (fun c_4 => ?_) (fun c_4 => ?_)
  · skip
    have q1 : ¬ wr (bY f) n8 4097 c9 1 < 0 := Int32.not_lt.mpr c_4
    have q2 := wk_end (bY_lt f) hn8 hc9 q1
    refine lv_aload_n hx hb dX0_skip_15 rfl (lv_at hl 1 rfl) ?_
    refine va_get (D := (dC, dI)) (ci := 0) (v := .int (nI c9)) (C := RX0) (T := TX0) (N := 6) hx hb hts hin0 hown hK hP 0 rfl rfl 2 (by decide) fl17 (fun _ h9 => h9) rfl dX0_skip_16 ?_
    refine lv_istore_n (lv' := [(2, .int (nI c9)), (1, .int (wr (bY f) n8 4097 c9 1)), (0, .ref h)]) hx hb dX0_skip_19 rfl hl (by decide) rfl (fun ls hl => ?_)
    refine lv_aload_n hx hb dX0_skip_20 rfl (lv_at hl 2 rfl) ?_
    refine gvv (As := []) (rest := []) ⟨hx, hb, hml, hown, hts⟩ (c_X0_countChild l dC dI tk tw h a b cB cJ _ f g (nI n8) (nI c9) zg k9 hk9) (cwV 0 hts gX0_skip_X0_countChild rfl rfl rfl (by decide +kernel) ⟨Nat.le_of_ble_eq_true rfl, Nat.le_of_ble_eq_true rfl⟩) hK hP hD hS hA hZ (q0 := 0) (ci := 0) rfl rfl rfl rfl hl.1 rfl (Nat.le_of_ble_eq_true rfl) dX0_skip_21 ⟨Nat.le_of_ble_eq_true rfl, Nat.le_of_ble_eq_true rfl⟩ (fun u_7 H locs hw_5 hP hD hS => ?_)
    have hP : va_P (dC, dI) vwCl (w0 h a b cB cJ f (cc1 g k9) (nI n8) (nI c9) zg (nI k9)) H := hP
    have hD : va_D A (w0 h a b cB cJ f (cc1 g k9) (nI n8) (nI c9) zg (nI k9)) := hD
    refine lv_aload_n hx hb dX0_skip_24 rfl (lv_at hl 2 rfl) ?_
    refine gvv (As := []) (rest := []) ⟨hx, hb, hml, hown, hts⟩ (c_X0_closeFinished l dC dI tk tw h a b cB cJ _ f (cc1 g k9) (nI n8) (nI c9) zg k9 hk9) (cwV 0 hts gX0_skip_X0_closeFinished rfl rfl rfl (by decide +kernel) ⟨Nat.le_of_ble_eq_true rfl, Nat.le_of_ble_eq_true rfl⟩) hK hP hD hS hA hZ (q0 := 0) (ci := 0) rfl rfl rfl rfl hl.1 rfl (Nat.le_of_ble_eq_true rfl) dX0_skip_25 ⟨Nat.le_of_ble_eq_true rfl, Nat.le_of_ble_eq_true rfl⟩ (fun u_10 H locs hw_8 hP hD hS => ?_)
    have hP : va_P (dC, dI) vwCl (w0 h a b cB cJ f (cc1 g k9) (nI n8) (nI c9) zg (nI (cl (cc1 g k9) k9))) H := hP
    have hD : va_D A (w0 h a b cB cJ f (cc1 g k9) (nI n8) (nI c9) zg (nI (cl (cc1 g k9) k9))) := hD
    refine lv_aload_n hx hb dX0_skip_28 rfl (lv_at hl 2 rfl) ?_
    refine lv_iload_n hx hb dX0_skip_29 rfl (lv_at hl 1 rfl) ?_
    have e_13 : (wr (bY f) n8 4097 c9 1 : Int32) = nI (wk (bY f) n8 4097 c9 1).2 := q2.1
    rw [e_13]
    refine gvv (As := [.int (nI (wk (bY f) n8 4097 c9 1).2)]) (rest := []) ⟨hx, hb, hml, hown, hts⟩ (c_X0_consume l dC dI tk tw h a b cB cJ _ f (cc1 g k9) (nI n8) (nI c9) zg (nI (cl (cc1 g k9) k9)) (wk (bY f) n8 4097 c9 1).2 q2.2.2.1) (cwV 1 hts gX0_skip_X0_consume rfl rfl rfl (by decide +kernel) ⟨Nat.le_of_ble_eq_true rfl, Nat.le_of_ble_eq_true rfl⟩) hK hP hD hS hA hZ (q0 := 0) (ci := 0) rfl rfl rfl rfl hl.1 rfl (Nat.le_of_ble_eq_true rfl) dX0_skip_30 ⟨Nat.le_of_ble_eq_true rfl, Nat.le_of_ble_eq_true rfl⟩ (fun u_14 H locs hw_11 hP hD hS => ?_)
    have hP : va_P (dC, dI) vwCl (w0 h a b cB cJ f (cc1 g k9) (nI n8) (nI (wk (bY f) n8 4097 c9 1).2 + nI (hd (bY f (wk (bY f) n8 4097 c9 1).2)) + pl (bY f) (wk (bY f) n8 4097 c9 1).2) (nI (wk (bY f) n8 4097 c9 1).2) (nI (cl (cc1 g k9) k9))) H := hP
    have hD : va_D A (w0 h a b cB cJ f (cc1 g k9) (nI n8) (nI (wk (bY f) n8 4097 c9 1).2 + nI (hd (bY f (wk (bY f) n8 4097 c9 1).2)) + pl (bY f) (wk (bY f) n8 4097 c9 1).2) (nI (wk (bY f) n8 4097 c9 1).2) (nI (cl (cc1 g k9) k9))) := hD
    refine lv_aload_n hx hb dX0_skip_33 rfl (lv_at hl 2 rfl) ?_
    refine va_get (D := (dC, dI)) (ci := 0) (v := .int (nI (wk (bY f) n8 4097 c9 1).2 + nI (hd (bY f (wk (bY f) n8 4097 c9 1).2)) + pl (bY f) (wk (bY f) n8 4097 c9 1).2)) (C := RX0) (T := TX0) (N := 6) hx hb hts hin0 hown hK hP 0 rfl rfl 2 (by decide) fl17 (fun _ h9 => h9) rfl dX0_skip_34 ?_
    refine lv_iload_n hx hb dX0_skip_37 rfl (lv_at hl 0 rfl) ?_
    refine lv_isub hx hb dX0_skip_38 ?_
    have hP9 : va_P (dC, dI) vwCl ((fun (u : (Nat → Int64) × Int32 × Int32 × Int32) => w0 h a b cB cJ f u.1 (nI n8) u.2.1 u.2.2.1 u.2.2.2) ((cc1 g k9, nI (wk (bY f) n8 4097 c9 1).2 + nI (hd (bY f (wk (bY f) n8 4097 c9 1).2)) + pl (bY f) (wk (bY f) n8 4097 c9 1).2, nI (wk (bY f) n8 4097 c9 1).2, nI (cl (cc1 g k9) k9)))) H := hP
    have hD9 : va_D A ((fun (u : (Nat → Int64) × Int32 × Int32 × Int32) => w0 h a b cB cJ f u.1 (nI n8) u.2.1 u.2.2.1 u.2.2.2) ((cc1 g k9, nI (wk (bY f) n8 4097 c9 1).2 + nI (hd (bY f (wk (bY f) n8 4097 c9 1).2)) + pl (bY f) (wk (bY f) n8 4097 c9 1).2, nI (wk (bY f) n8 4097 c9 1).2, nI (cl (cc1 g k9) k9)))) := hD
    exact W.iret (v := (nI (wk (bY f) n8 4097 c9 1).2 + nI (hd (bY f (wk (bY f) n8 4097 c9 1).2)) + pl (bY f) (wk (bY f) n8 4097 c9 1).2) - (nI c9)) hx hb hr (fun t ht hW => ⟨⟨(nI (wk (bY f) n8 4097 c9 1).2 + nI (hd (bY f (wk (bY f) n8 4097 c9 1).2)) + pl (bY f) (wk (bY f) n8 4097 c9 1).2) - (nI c9), (cc1 g k9, nI (wk (bY f) n8 4097 c9 1).2 + nI (hd (bY f (wk (bY f) n8 4097 c9 1).2)) + pl (bY f) (wk (bY f) n8 4097 c9 1).2, nI (wk (bY f) n8 4097 c9 1).2, nI (cl (cc1 g k9) k9)), rfl, (Or.inr ⟨q1, by rw [q2.2.2.2.1], by rw [q2.2.2.2.1]⟩), by rw [ht]; exact hP9, va_K.moved hW.alike hK, hD9⟩, hS.F ht⟩) hS.2.2 dX0_skip_39
  · skip
    refine lv_iload_n hx hb dX0_skip_13 rfl (lv_at hl 0 rfl) ?_
    have hP9 : va_P (dC, dI) vwCl ((fun (u : (Nat → Int64) × Int32 × Int32 × Int32) => w0 h a b cB cJ f u.1 (nI n8) u.2.1 u.2.2.1 u.2.2.2) ((g, nI c9, zg, nI k9))) H := hP
    have hD9 : va_D A ((fun (u : (Nat → Int64) × Int32 × Int32 × Int32) => w0 h a b cB cJ f u.1 (nI n8) u.2.1 u.2.2.1 u.2.2.2) ((g, nI c9, zg, nI k9))) := hD
    exact W.iret (v := wr (bY f) n8 4097 c9 1) hx hb hr (fun t ht hW => ⟨⟨wr (bY f) n8 4097 c9 1, (g, nI c9, zg, nI k9), rfl, (Or.inl ⟨Int32.not_le.mp c_4, rfl, rfl⟩), by rw [ht]; exact hP9, va_K.moved hW.alike hK, hD9⟩, hS.F ht⟩) hS.2.2 dX0_skip_14
end
section
def us (x : Int64) : Int32 := if (x.toUInt64 >>> ((8 : Int32).toInt64.toUInt64 &&& Int64.toUInt64 63)).toInt64 = (0 : Int64) then 0 else if (x.toUInt64 >>> ((16 : Int32).toInt64.toUInt64 &&& Int64.toUInt64 63)).toInt64 = (0 : Int64) then 1 else if (x.toUInt64 >>> ((32 : Int32).toInt64.toUInt64 &&& Int64.toUInt64 63)).toInt64 = (0 : Int64) then 2 else 3
def ss (x : Int64) : Int32 := if x = x.toInt32.toInt8.toInt32.toInt64 then 0 else if x = x.toInt32.toInt16.toInt32.toInt64 then 1 else if x = x.toInt32.toInt64 then 2 else 3
def cs (x : Int64) : Int32 := if (x.toUInt64 >>> ((16 : Int32).toInt64.toUInt64 &&& Int64.toUInt64 63)).toInt64 = (0 : Int64) then 0 else 1
def nO (k lo hi : Int32) : Int64 := if k ≤ 5 then (hi.toInt64 <<< ((32 : Int32).toInt64 &&& 63)) ||| (lo.toInt64 &&& 4294967295) else if k = 7 then (hi.toInt64 <<< ((32 : Int32).toInt64 &&& 63)) ||| (lo.toInt64 &&& 4294967295) else lo.toInt64 &&& 4294967295
def eF (x : Int64) : Nat → Nat → Int32
  | 0, _ => 199 + us x
  | m + 1, i => if x = (1 : Int64) <<< ((nI i).toInt64 &&& 63) then 212 + nI i else eF x m (i + 1)
def sF (k : Int32) (x : Int64) : Int32 := if k = 1 then 192 else if k = 2 then 194 else if k = 3 then 195 else
  if k = 4 then (if x < 0 then 204 + us x else if 128 ≤ x then 204 + us x else x.toInt32) else
  if k = 5 then (if x < -32 then 208 + ss x else if 0 ≤ x then 208 + ss x else 256 + x.toInt32) else
  if k = 6 then 202 else if k = 7 then 203 else
  if k = 8 then (if 32 ≤ x then 217 + us x else 160 + x.toInt32) else
  if k = 9 then 196 + us x else
  if k = 10 then (if 16 ≤ x then 220 + cs x else 144 + x.toInt32) else
  if k = 11 then (if 16 ≤ x then 222 + cs x else 128 + x.toInt32) else eF x 5 0
set_option maxHeartbeats 4000000 in
set_option maxRecDepth 100000 in
theorem c_X0_unsignedStep (l : Launch) (dC : Nat → ClassId) (dI : Nat → Nat → Nat) (tk tw : Nat) (sz : Nat) (x9 : Int64) : Met l yX0_unsignedStep wsX0_unsignedStep ({ frames := 0, cells := 0, slots := 0, locals := 0 }) (va_Pc [.long x9] (p0 sz tk tw)) (va_Qi (fun (r : Int32) (_ : Unit) => r = us x9) (fun _ _ => True) (va_A [] sz)) 0 0 (va_A [] sz) := by
  refine Met.ofW (cc := cX0_unsignedStep) (maxL := 2) (ret := (some .int)) (by decide) rfl ?_
  intro p e s m args below meth c s₁ Bd hml hv
  obtain ⟨rfl, hsz, hZ⟩ := hv
  have hx := Bd.exec
  have hb := Bd.bytes
  have hr := Bd.returns
  have hts := atoms_spec (ws := wsX0_unsignedStep) Bd.pre
  have hown : s.vm.findClass RX0 = some m.cls := findClass_of_methodNamed Bd.named
  have hlocks := Bd.notSynchronized
  subst hsz
  generalize hAe : va_A [] s.heap.size = A at hZ ⊢
  have hA : ∀ q : Nat, s.heap.size ≤ q → A q := fun q h => by rw [← hAe]; exact Or.inr h
  have hS : va_S A s.heap s.heap [] := va_S.rf
  have hP : va_P (dC, dI) vwCl [] s.heap := fun k q h => by simp at h
  have hl := lv_entry ([.long x9]) (n := 2) (Nat.le_of_ble_eq_true rfl)
  rw [lg_entry_eq]
  generalize (lg_sl ([.long x9]) ++ List.replicate (2 - (lg_sl ([.long x9])).length) Slot.unset).toArray = ls at hl ⊢
  have hl : lv_has ls 2 [(0, .long x9)] := hl
  refine lv_lload_n hx hb dX0_unsignedStep_0 rfl (lv_at hl 0 rfl) ?_
  refine lv_bipush (v := 8) hx hb dX0_unsignedStep_1 (by decide) ?_
  refine lv_lushr hx hb dX0_unsignedStep_3 rfl ?_
  refine lv_lconst (v := 0) hx hb dX0_unsignedStep_4 (by decide) ?_
  refine W.lcmp hx hb dX0_unsignedStep_5 ?_
  refine lv_if_ne (tgt := 11) hx hb dX0_unsignedStep_6 (by decide) (fun c_1 => ?_) (fun c_1 => ?_)
  · skip
    have c_1 := (not_congr (lg_cmp_eq ((x9.toUInt64 >>> ((8 : Int32).toInt64.toUInt64 &&& Int64.toUInt64 63)).toInt64) (0 : Int64))).mp c_1
    refine lv_lload_n hx hb dX0_unsignedStep_11 rfl (lv_at hl 0 rfl) ?_
    refine lv_bipush (v := 16) hx hb dX0_unsignedStep_12 (by decide) ?_
    refine lv_lushr hx hb dX0_unsignedStep_14 rfl ?_
    refine lv_lconst (v := 0) hx hb dX0_unsignedStep_15 (by decide) ?_
    refine W.lcmp hx hb dX0_unsignedStep_16 ?_
    refine lv_if_ne (tgt := 22) hx hb dX0_unsignedStep_17 (by decide) (fun c_2 => ?_) (fun c_2 => ?_)
    · skip
      have c_2 := (not_congr (lg_cmp_eq ((x9.toUInt64 >>> ((16 : Int32).toInt64.toUInt64 &&& Int64.toUInt64 63)).toInt64) (0 : Int64))).mp c_2
      refine lv_lload_n hx hb dX0_unsignedStep_22 rfl (lv_at hl 0 rfl) ?_
      refine lv_bipush (v := 32) hx hb dX0_unsignedStep_23 (by decide) ?_
      refine lv_lushr hx hb dX0_unsignedStep_25 rfl ?_
      refine lv_lconst (v := 0) hx hb dX0_unsignedStep_26 (by decide) ?_
      refine W.lcmp hx hb dX0_unsignedStep_27 ?_
      refine lv_if_ne (tgt := 35) hx hb dX0_unsignedStep_28 (by decide) (fun c_3 => ?_) (fun c_3 => ?_)
      · skip
        have c_3 := (not_congr (lg_cmp_eq ((x9.toUInt64 >>> ((32 : Int32).toInt64.toUInt64 &&& Int64.toUInt64 63)).toInt64) (0 : Int64))).mp c_3
        refine lv_iconst (v := 3) hx hb dX0_unsignedStep_35 (by decide) ?_
        exact W.iret (v := 3) hx hb hr (fun t ht hW => ⟨⟨3, (), rfl, (by unfold us; rw [if_neg c_1, if_neg c_2, if_neg c_3]), trivial⟩, hS.F ht⟩) hS.2.2 dX0_unsignedStep_36
      · skip
        have c_3 := (lg_cmp_eq ((x9.toUInt64 >>> ((32 : Int32).toInt64.toUInt64 &&& Int64.toUInt64 63)).toInt64) (0 : Int64)).mp c_3
        refine lv_iconst (v := 2) hx hb dX0_unsignedStep_31 (by decide) ?_
        refine lv_goto (tgt := 36) hx hb dX0_unsignedStep_32 (by decide) ?_
        exact W.iret (v := 2) hx hb hr (fun t ht hW => ⟨⟨2, (), rfl, (by unfold us; rw [if_neg c_1, if_neg c_2, if_pos c_3]), trivial⟩, hS.F ht⟩) hS.2.2 dX0_unsignedStep_36
    · skip
      have c_2 := (lg_cmp_eq ((x9.toUInt64 >>> ((16 : Int32).toInt64.toUInt64 &&& Int64.toUInt64 63)).toInt64) (0 : Int64)).mp c_2
      refine lv_iconst (v := 1) hx hb dX0_unsignedStep_20 (by decide) ?_
      exact W.iret (v := 1) hx hb hr (fun t ht hW => ⟨⟨1, (), rfl, (by unfold us; rw [if_neg c_1, if_pos c_2]), trivial⟩, hS.F ht⟩) hS.2.2 dX0_unsignedStep_21
  · skip
    have c_1 := (lg_cmp_eq ((x9.toUInt64 >>> ((8 : Int32).toInt64.toUInt64 &&& Int64.toUInt64 63)).toInt64) (0 : Int64)).mp c_1
    refine lv_iconst (v := 0) hx hb dX0_unsignedStep_9 (by decide) ?_
    exact W.iret (v := 0) hx hb hr (fun t ht hW => ⟨⟨0, (), rfl, (by unfold us; rw [if_pos c_1]), trivial⟩, hS.F ht⟩) hS.2.2 dX0_unsignedStep_10
set_option maxHeartbeats 4000000 in
set_option maxRecDepth 100000 in
theorem c_X0_signedStep (l : Launch) (dC : Nat → ClassId) (dI : Nat → Nat → Nat) (tk tw : Nat) (sz : Nat) (x9 : Int64) : Met l yX0_signedStep wsX0_signedStep ({ frames := 0, cells := 0, slots := 0, locals := 0 }) (va_Pc [.long x9] (p0 sz tk tw)) (va_Qi (fun (r : Int32) (_ : Unit) => r = ss x9) (fun _ _ => True) (va_A [] sz)) 0 0 (va_A [] sz) := by
  refine Met.ofW (cc := cX0_signedStep) (maxL := 2) (ret := (some .int)) (by decide) rfl ?_
  intro p e s m args below meth c s₁ Bd hml hv
  obtain ⟨rfl, hsz, hZ⟩ := hv
  have hx := Bd.exec
  have hb := Bd.bytes
  have hr := Bd.returns
  have hts := atoms_spec (ws := wsX0_signedStep) Bd.pre
  have hown : s.vm.findClass RX0 = some m.cls := findClass_of_methodNamed Bd.named
  have hlocks := Bd.notSynchronized
  subst hsz
  generalize hAe : va_A [] s.heap.size = A at hZ ⊢
  have hA : ∀ q : Nat, s.heap.size ≤ q → A q := fun q h => by rw [← hAe]; exact Or.inr h
  have hS : va_S A s.heap s.heap [] := va_S.rf
  have hP : va_P (dC, dI) vwCl [] s.heap := fun k q h => by simp at h
  have hl := lv_entry ([.long x9]) (n := 2) (Nat.le_of_ble_eq_true rfl)
  rw [lg_entry_eq]
  generalize (lg_sl ([.long x9]) ++ List.replicate (2 - (lg_sl ([.long x9])).length) Slot.unset).toArray = ls at hl ⊢
  have hl : lv_has ls 2 [(0, .long x9)] := hl
  refine lv_lload_n hx hb dX0_signedStep_0 rfl (lv_at hl 0 rfl) ?_
  refine lv_lload_n hx hb dX0_signedStep_1 rfl (lv_at hl 0 rfl) ?_
  refine lv_l2i hx hb dX0_signedStep_2 rfl ?_
  refine lv_i2b hx hb dX0_signedStep_3 rfl ?_
  refine lv_i2l hx hb dX0_signedStep_4 rfl ?_
  refine W.lcmp hx hb dX0_signedStep_5 ?_
  refine lv_if_ne (tgt := 11) hx hb dX0_signedStep_6 (by decide) (fun c_1 => ?_) (fun c_1 => ?_)
  · skip
    have c_1 := (not_congr (lg_cmp_eq x9 x9.toInt32.toInt8.toInt32.toInt64)).mp c_1
    refine lv_lload_n hx hb dX0_signedStep_11 rfl (lv_at hl 0 rfl) ?_
    refine lv_lload_n hx hb dX0_signedStep_12 rfl (lv_at hl 0 rfl) ?_
    refine lv_l2i hx hb dX0_signedStep_13 rfl ?_
    refine lv_i2s hx hb dX0_signedStep_14 rfl ?_
    refine lv_i2l hx hb dX0_signedStep_15 rfl ?_
    refine W.lcmp hx hb dX0_signedStep_16 ?_
    refine lv_if_ne (tgt := 22) hx hb dX0_signedStep_17 (by decide) (fun c_2 => ?_) (fun c_2 => ?_)
    · skip
      have c_2 := (not_congr (lg_cmp_eq x9 x9.toInt32.toInt16.toInt32.toInt64)).mp c_2
      refine lv_lload_n hx hb dX0_signedStep_22 rfl (lv_at hl 0 rfl) ?_
      refine lv_lload_n hx hb dX0_signedStep_23 rfl (lv_at hl 0 rfl) ?_
      refine lv_l2i hx hb dX0_signedStep_24 rfl ?_
      refine lv_i2l hx hb dX0_signedStep_25 rfl ?_
      refine W.lcmp hx hb dX0_signedStep_26 ?_
      refine lv_if_ne (tgt := 34) hx hb dX0_signedStep_27 (by decide) (fun c_3 => ?_) (fun c_3 => ?_)
      · skip
        have c_3 := (not_congr (lg_cmp_eq x9 x9.toInt32.toInt64)).mp c_3
        refine lv_iconst (v := 3) hx hb dX0_signedStep_34 (by decide) ?_
        exact W.iret (v := 3) hx hb hr (fun t ht hW => ⟨⟨3, (), rfl, (by unfold ss; rw [if_neg c_1, if_neg c_2, if_neg c_3]), trivial⟩, hS.F ht⟩) hS.2.2 dX0_signedStep_35
      · skip
        have c_3 := (lg_cmp_eq x9 x9.toInt32.toInt64).mp c_3
        refine lv_iconst (v := 2) hx hb dX0_signedStep_30 (by decide) ?_
        refine lv_goto (tgt := 35) hx hb dX0_signedStep_31 (by decide) ?_
        exact W.iret (v := 2) hx hb hr (fun t ht hW => ⟨⟨2, (), rfl, (by unfold ss; rw [if_neg c_1, if_neg c_2, if_pos c_3]), trivial⟩, hS.F ht⟩) hS.2.2 dX0_signedStep_35
    · skip
      have c_2 := (lg_cmp_eq x9 x9.toInt32.toInt16.toInt32.toInt64).mp c_2
      refine lv_iconst (v := 1) hx hb dX0_signedStep_20 (by decide) ?_
      exact W.iret (v := 1) hx hb hr (fun t ht hW => ⟨⟨1, (), rfl, (by unfold ss; rw [if_neg c_1, if_pos c_2]), trivial⟩, hS.F ht⟩) hS.2.2 dX0_signedStep_21
  · skip
    have c_1 := (lg_cmp_eq x9 x9.toInt32.toInt8.toInt32.toInt64).mp c_1
    refine lv_iconst (v := 0) hx hb dX0_signedStep_9 (by decide) ?_
    exact W.iret (v := 0) hx hb hr (fun t ht hW => ⟨⟨0, (), rfl, (by unfold ss; rw [if_pos c_1]), trivial⟩, hS.F ht⟩) hS.2.2 dX0_signedStep_10
set_option maxHeartbeats 4000000 in
set_option maxRecDepth 100000 in
theorem c_X0_countStep (l : Launch) (dC : Nat → ClassId) (dI : Nat → Nat → Nat) (tk tw : Nat) (sz : Nat) (x9 : Int64) : Met l yX0_countStep wsX0_countStep ({ frames := 0, cells := 0, slots := 0, locals := 0 }) (va_Pc [.long x9] (p0 sz tk tw)) (va_Qi (fun (r : Int32) (_ : Unit) => r = cs x9) (fun _ _ => True) (va_A [] sz)) 0 0 (va_A [] sz) := by
  refine Met.ofW (cc := cX0_countStep) (maxL := 2) (ret := (some .int)) (by decide) rfl ?_
  intro p e s m args below meth c s₁ Bd hml hv
  obtain ⟨rfl, hsz, hZ⟩ := hv
  have hx := Bd.exec
  have hb := Bd.bytes
  have hr := Bd.returns
  have hts := atoms_spec (ws := wsX0_countStep) Bd.pre
  have hown : s.vm.findClass RX0 = some m.cls := findClass_of_methodNamed Bd.named
  have hlocks := Bd.notSynchronized
  subst hsz
  generalize hAe : va_A [] s.heap.size = A at hZ ⊢
  have hA : ∀ q : Nat, s.heap.size ≤ q → A q := fun q h => by rw [← hAe]; exact Or.inr h
  have hS : va_S A s.heap s.heap [] := va_S.rf
  have hP : va_P (dC, dI) vwCl [] s.heap := fun k q h => by simp at h
  have hl := lv_entry ([.long x9]) (n := 2) (Nat.le_of_ble_eq_true rfl)
  rw [lg_entry_eq]
  generalize (lg_sl ([.long x9]) ++ List.replicate (2 - (lg_sl ([.long x9])).length) Slot.unset).toArray = ls at hl ⊢
  have hl : lv_has ls 2 [(0, .long x9)] := hl
  refine lv_lload_n hx hb dX0_countStep_0 rfl (lv_at hl 0 rfl) ?_
  refine lv_bipush (v := 16) hx hb dX0_countStep_1 (by decide) ?_
  refine lv_lushr hx hb dX0_countStep_3 rfl ?_
  refine lv_lconst (v := 0) hx hb dX0_countStep_4 (by decide) ?_
  refine W.lcmp hx hb dX0_countStep_5 ?_
  refine lv_if_ne (tgt := 13) hx hb dX0_countStep_6 (by decide) (fun c_1 => ?_) (fun c_1 => ?_)
  · skip
    have c_1 := (not_congr (lg_cmp_eq ((x9.toUInt64 >>> ((16 : Int32).toInt64.toUInt64 &&& Int64.toUInt64 63)).toInt64) (0 : Int64))).mp c_1
    refine lv_iconst (v := 1) hx hb dX0_countStep_13 (by decide) ?_
    exact W.iret (v := 1) hx hb hr (fun t ht hW => ⟨⟨1, (), rfl, (by unfold cs; rw [if_neg c_1]), trivial⟩, hS.F ht⟩) hS.2.2 dX0_countStep_14
  · skip
    have c_1 := (lg_cmp_eq ((x9.toUInt64 >>> ((16 : Int32).toInt64.toUInt64 &&& Int64.toUInt64 63)).toInt64) (0 : Int64)).mp c_1
    refine lv_iconst (v := 0) hx hb dX0_countStep_9 (by decide) ?_
    refine lv_goto (tgt := 14) hx hb dX0_countStep_10 (by decide) ?_
    exact W.iret (v := 0) hx hb hr (fun t ht hW => ⟨⟨0, (), rfl, (by unfold cs; rw [if_pos c_1]), trivial⟩, hS.F ht⟩) hS.2.2 dX0_countStep_14
set_option maxHeartbeats 4000000 in
set_option maxRecDepth 100000 in
theorem c_X0_numberOf (l : Launch) (dC : Nat → ClassId) (dI : Nat → Nat → Nat) (tk tw : Nat) (sz : Nat) (k9 lo hi : Int32) : Met l yX0_numberOf wsX0_numberOf ({ frames := 0, cells := 0, slots := 0, locals := 0 }) (va_Pc [.int k9, .int lo, .int hi] (p0 sz tk tw)) (va_Ql (fun (r : Int64) (_ : Unit) => r = nO k9 lo hi) (fun _ _ => True) (va_A [] sz)) 0 0 (va_A [] sz) := by
  refine Met.ofW (cc := cX0_numberOf) (maxL := 6) (ret := (some .long)) (by decide) rfl ?_
  intro p e s m args below meth c s₁ Bd hml hv
  obtain ⟨rfl, hsz, hZ⟩ := hv
  have hx := Bd.exec
  have hb := Bd.bytes
  have hr := Bd.returns
  have hts := atoms_spec (ws := wsX0_numberOf) Bd.pre
  have hown : s.vm.findClass RX0 = some m.cls := findClass_of_methodNamed Bd.named
  have hlocks := Bd.notSynchronized
  subst hsz
  generalize hAe : va_A [] s.heap.size = A at hZ ⊢
  have hA : ∀ q : Nat, s.heap.size ≤ q → A q := fun q h => by rw [← hAe]; exact Or.inr h
  have hS : va_S A s.heap s.heap [] := va_S.rf
  have hP : va_P (dC, dI) vwCl [] s.heap := fun k q h => by simp at h
  have hl := lv_entry ([.int k9, .int lo, .int hi]) (n := 6) (Nat.le_of_ble_eq_true rfl)
  rw [lg_entry_eq]
  generalize (lg_sl ([.int k9, .int lo, .int hi]) ++ List.replicate (6 - (lg_sl ([.int k9, .int lo, .int hi])).length) Slot.unset).toArray = ls at hl ⊢
  have hl : lv_has ls 6 [(0, .int k9), (1, .int lo), (2, .int hi)] := hl
  refine lv_iload_n hx hb dX0_numberOf_0 rfl (lv_at hl 0 rfl) ?_
  refine lv_iconst (v := 5) hx hb dX0_numberOf_1 (by decide) ?_
  refine lv_icmp_le (tgt := 11) hx hb dX0_numberOf_2 (by decide) (fun c_1 => ?_) (fun c_1 => ?_)
  · skip
    refine lv_iconst (v := 1) hx hb dX0_numberOf_11 (by decide) ?_
    refine lv_goto (tgt := 16) hx hb dX0_numberOf_12 (by decide) ?_
    refine lv_istore_n (lv' := [(3, .int 1), (0, .int k9), (1, .int lo), (2, .int hi)]) hx hb dX0_numberOf_16 rfl hl (by decide) rfl (fun ls hl => ?_)
    refine lv_iload_n hx hb dX0_numberOf_17 rfl (lv_at hl 2 rfl) ?_
    refine lv_i2l hx hb dX0_numberOf_18 rfl ?_
    refine lv_ldc2 (v := 4294967295) hx hb hown (hts (.constantLong RX0 161 (4294967295)) (by decide +kernel)) dX0_numberOf_19 ?_
    refine lv_land hx hb dX0_numberOf_22 ?_
    refine lv_lstore (lv' := [(4, .long (lo.toInt64 &&& 4294967295)), (3, .int 1), (0, .int k9), (1, .int lo), (2, .int hi)]) hx hb dX0_numberOf_23 hl (by decide) rfl (fun ls hl => ?_)
    refine lv_iload_n hx hb dX0_numberOf_25 rfl (lv_at hl 1 rfl) ?_
    refine lv_if_eq (tgt := 40) hx hb dX0_numberOf_26 (by decide) (fun c_2 => ?_) (fun c_2 => ?_)
    · skip
      exact absurd c_2 (by decide)
    · skip
      refine lv_iload_n hx hb dX0_numberOf_29 rfl (lv_at hl 4 rfl) ?_
      refine lv_i2l hx hb dX0_numberOf_30 rfl ?_
      refine lv_bipush (v := 32) hx hb dX0_numberOf_31 (by decide) ?_
      refine lv_lshl hx hb dX0_numberOf_33 rfl ?_
      refine lv_lload hx hb dX0_numberOf_34 (lv_at hl 0 rfl) ?_
      refine lv_lor hx hb dX0_numberOf_36 ?_
      refine lv_goto (tgt := 42) hx hb dX0_numberOf_37 (by decide) ?_
      exact W.lret (v := (hi.toInt64 <<< ((32 : Int32).toInt64 &&& 63)) ||| (lo.toInt64 &&& 4294967295)) hx hb hr (fun t ht hW => ⟨⟨(hi.toInt64 <<< ((32 : Int32).toInt64 &&& 63)) ||| (lo.toInt64 &&& 4294967295), (), rfl, (by unfold nO; rw [if_pos c_1]), trivial⟩, hS.F ht⟩) hS.2.2 dX0_numberOf_42
  · skip
    refine lv_iload_n hx hb dX0_numberOf_5 rfl (lv_at hl 0 rfl) ?_
    refine lv_bipush (v := 7) hx hb dX0_numberOf_6 (by decide) ?_
    refine lv_icmp_ne (tgt := 15) hx hb dX0_numberOf_8 (by decide) (fun c_3 => ?_) (fun c_3 => ?_)
    · skip
      refine lv_iconst (v := 0) hx hb dX0_numberOf_15 (by decide) ?_
      refine lv_istore_n (lv' := [(3, .int 0), (0, .int k9), (1, .int lo), (2, .int hi)]) hx hb dX0_numberOf_16 rfl hl (by decide) rfl (fun ls hl => ?_)
      refine lv_iload_n hx hb dX0_numberOf_17 rfl (lv_at hl 2 rfl) ?_
      refine lv_i2l hx hb dX0_numberOf_18 rfl ?_
      refine lv_ldc2 (v := 4294967295) hx hb hown (hts (.constantLong RX0 161 (4294967295)) (by decide +kernel)) dX0_numberOf_19 ?_
      refine lv_land hx hb dX0_numberOf_22 ?_
      refine lv_lstore (lv' := [(4, .long (lo.toInt64 &&& 4294967295)), (3, .int 0), (0, .int k9), (1, .int lo), (2, .int hi)]) hx hb dX0_numberOf_23 hl (by decide) rfl (fun ls hl => ?_)
      refine lv_iload_n hx hb dX0_numberOf_25 rfl (lv_at hl 1 rfl) ?_
      refine lv_if_eq (tgt := 40) hx hb dX0_numberOf_26 (by decide) (fun c_4 => ?_) (fun c_4 => ?_)
      · skip
        refine lv_lload hx hb dX0_numberOf_40 (lv_at hl 0 rfl) ?_
        exact W.lret (v := lo.toInt64 &&& 4294967295) hx hb hr (fun t ht hW => ⟨⟨lo.toInt64 &&& 4294967295, (), rfl, (by unfold nO; rw [if_neg c_1, if_neg c_3]), trivial⟩, hS.F ht⟩) hS.2.2 dX0_numberOf_42
      · skip
        exact absurd (by decide) c_4
    · skip
      refine lv_iconst (v := 1) hx hb dX0_numberOf_11 (by decide) ?_
      refine lv_goto (tgt := 16) hx hb dX0_numberOf_12 (by decide) ?_
      refine lv_istore_n (lv' := [(3, .int 1), (0, .int k9), (1, .int lo), (2, .int hi)]) hx hb dX0_numberOf_16 rfl hl (by decide) rfl (fun ls hl => ?_)
      refine lv_iload_n hx hb dX0_numberOf_17 rfl (lv_at hl 2 rfl) ?_
      refine lv_i2l hx hb dX0_numberOf_18 rfl ?_
      refine lv_ldc2 (v := 4294967295) hx hb hown (hts (.constantLong RX0 161 (4294967295)) (by decide +kernel)) dX0_numberOf_19 ?_
      refine lv_land hx hb dX0_numberOf_22 ?_
      refine lv_lstore (lv' := [(4, .long (lo.toInt64 &&& 4294967295)), (3, .int 1), (0, .int k9), (1, .int lo), (2, .int hi)]) hx hb dX0_numberOf_23 hl (by decide) rfl (fun ls hl => ?_)
      refine lv_iload_n hx hb dX0_numberOf_25 rfl (lv_at hl 1 rfl) ?_
      refine lv_if_eq (tgt := 40) hx hb dX0_numberOf_26 (by decide) (fun c_5 => ?_) (fun c_5 => ?_)
      · skip
        exact absurd c_5 (by decide)
      · skip
        refine lv_iload_n hx hb dX0_numberOf_29 rfl (lv_at hl 4 rfl) ?_
        refine lv_i2l hx hb dX0_numberOf_30 rfl ?_
        refine lv_bipush (v := 32) hx hb dX0_numberOf_31 (by decide) ?_
        refine lv_lshl hx hb dX0_numberOf_33 rfl ?_
        refine lv_lload hx hb dX0_numberOf_34 (lv_at hl 0 rfl) ?_
        refine lv_lor hx hb dX0_numberOf_36 ?_
        refine lv_goto (tgt := 42) hx hb dX0_numberOf_37 (by decide) ?_
        exact W.lret (v := (hi.toInt64 <<< ((32 : Int32).toInt64 &&& 63)) ||| (lo.toInt64 &&& 4294967295)) hx hb hr (fun t ht hW => ⟨⟨(hi.toInt64 <<< ((32 : Int32).toInt64 &&& 63)) ||| (lo.toInt64 &&& 4294967295), (), rfl, (by unfold nO; rw [if_neg c_1, if_pos c_3]), trivial⟩, hS.F ht⟩) hS.2.2 dX0_numberOf_42
set_option maxHeartbeats 4000000 in
set_option maxRecDepth 100000 in
theorem c_X0_extensionForm (l : Launch) (dC : Nat → ClassId) (dI : Nat → Nat → Nat) (tk tw : Nat) (sz : Nat) (x9 : Int64) : Met l yX0_extensionForm wsX0_extensionForm ({ frames := 1, cells := 0, slots := 0, locals := 21 }) (va_Pc [.long x9] (p0 sz tk tw)) (va_Qi (fun (r : Int32) (_ : Unit) => r = eF x9 5 0) (fun _ _ => True) (va_A [] sz)) 0 0 (va_A [] sz) := by
  refine Met.ofW (cc := cX0_extensionForm) (maxL := 3) (ret := (some .int)) (by decide) rfl ?_
  intro p e s m args below meth c s₁ Bd hml hv
  obtain ⟨rfl, hsz, hZ⟩ := hv
  have hx := Bd.exec
  have hb := Bd.bytes
  have hr := Bd.returns
  have hts := atoms_spec (ws := wsX0_extensionForm) Bd.pre
  have hown : s.vm.findClass RX0 = some m.cls := findClass_of_methodNamed Bd.named
  have hlocks := Bd.notSynchronized
  subst hsz
  generalize hAe : va_A [] s.heap.size = A at hZ ⊢
  have hA : ∀ q : Nat, s.heap.size ≤ q → A q := fun q h => by rw [← hAe]; exact Or.inr h
  have hS : va_S A s.heap s.heap [] := va_S.rf
  have hP : va_P (dC, dI) vwCl [] s.heap := fun k q h => by simp at h
  have hl := lv_entry ([.long x9]) (n := 3) (Nat.le_of_ble_eq_true rfl)
  rw [lg_entry_eq]
  generalize (lg_sl ([.long x9]) ++ List.replicate (3 - (lg_sl ([.long x9])).length) Slot.unset).toArray = ls at hl ⊢
  have hl : lv_has ls 3 [(0, .long x9)] := hl
  refine lv_iconst (v := 0) hx hb dX0_extensionForm_0 (by decide) ?_
  refine lv_istore_n (lv' := [(2, .int 0), (0, .long x9)]) hx hb dX0_extensionForm_1 rfl hl (by decide) rfl (fun ls hl => ?_)
  have loop2 : ∀ (fz : Nat) (q i : Nat), q < fz → i + q = 5 → eF x9 q i = eF x9 5 0 → ∀ (H : Heap) (locs : List Loc), va_P (dC, dI) vwCl [] H → va_S A s.heap H locs → ∀ ls : Array Slot, lv_has ls 3 [(0, .long x9), (2, .int (nI i))] → W p l e (headSpec wsX0_extensionForm ({ frames := 1, cells := 0, slots := 0, locals := 21 })).room s m ([.long x9]).toArray below meth c H locs 0 0 (MQ below (va_Qi (fun (r : Int32) (_ : Unit) => r = eF x9 5 0) (fun _ _ => True) A) ([.long x9]).toArray s 0 0 A) (F0 m 2 ls []) := by
    intro fz
    induction fz with
    | zero =>
      intro q i hq hi hw9 H locs hP hS ls hl
      exact absurd hq (Nat.not_lt_zero _)
    | succ fz ih =>
      intro q i hq hi hw9 H locs hP hS ls hl
      refine lv_iload_n hx hb dX0_extensionForm_2 rfl (lv_at hl 1 rfl) ?_
      refine lv_iconst (v := 5) hx hb dX0_extensionForm_3 (by decide) ?_
      refine lv_icmp_ge (tgt := 27) hx hb dX0_extensionForm_4 (by decide) (fun c_1 => ?_) (fun c_1 => ?_)
      · skip
        have hq0 : q = 0 := by have z := (nI_leI (a := 5) (b := i) (by decide) (by omega)).mp c_1; omega
        refine lv_sipush (v := 199) hx hb dX0_extensionForm_27 (by decide) ?_
        refine lv_lload_n hx hb dX0_extensionForm_30 rfl (lv_at hl 0 rfl) ?_
        refine gsi (As := [.long x9]) (rest := [.int 199]) ⟨hx, hb, hml, hown, hts⟩ (c_X0_unsignedStep l dC dI tk tw _ x9) (va_cwS 1 hts gX0_extensionForm_X0_unsignedStep rfl rfl rfl (by decide +kernel) ⟨Nat.le_of_ble_eq_true rfl, Nat.le_of_ble_eq_true rfl⟩) hP hS hA hZ rfl hl.1 rfl (Nat.le_of_ble_eq_true rfl) dX0_extensionForm_31 ⟨Nat.le_of_ble_eq_true rfl, Nat.le_of_ble_eq_true rfl⟩ (fun r_3 H locs hw_2 hP hS => ?_)
        obtain rfl : r_3 = us x9 := hw_2
        refine lv_iadd hx hb dX0_extensionForm_34 ?_
        exact W.iret (v := 199 + (us x9)) hx hb hr (fun t ht hW => ⟨⟨199 + (us x9), (), rfl, (by rw [← hw9, hq0]; rfl), trivial⟩, hS.F ht⟩) hS.2.2 dX0_extensionForm_35
      · skip
        obtain ⟨t, ht9⟩ : ∃ t, q = t + 1 := ⟨q - 1, by have z := (not_congr (nI_leI (a := 5) (b := i) (by decide) (by omega))).mp c_1; omega⟩
        refine lv_lload_n hx hb dX0_extensionForm_7 rfl (lv_at hl 0 rfl) ?_
        refine lv_lconst (v := 1) hx hb dX0_extensionForm_8 (by decide) ?_
        refine lv_iload_n hx hb dX0_extensionForm_9 rfl (lv_at hl 1 rfl) ?_
        refine lv_lshl hx hb dX0_extensionForm_10 rfl ?_
        refine W.lcmp hx hb dX0_extensionForm_11 ?_
        refine lv_if_ne (tgt := 21) hx hb dX0_extensionForm_12 (by decide) (fun c_4 => ?_) (fun c_4 => ?_)
        · skip
          have c_4 := (not_congr (lg_cmp_eq x9 (1 <<< ((nI i).toInt64 &&& 63)))).mp c_4
          refine lv_iinc (v := nI (i + 1)) (lv' := [(2, .int (nI (i + 1))), (0, .long x9)]) hx hb dX0_extensionForm_21 hl (k := 1) rfl (nI_1 i) (by decide) rfl (fun ls hl => ?_)
          refine lv_goto (tgt := 2) hx hb dX0_extensionForm_24 (by decide) ?_
          exact ih t (i + 1) (by omega) (by omega) (by rw [← hw9, ht9]; exact (if_neg c_4).symm) _ _ hP hS ls (lv_sub hl [1, 0] rfl)
        · skip
          have c_4 := (lg_cmp_eq x9 (1 <<< ((nI i).toInt64 &&& 63))).mp c_4
          refine lv_sipush (v := 212) hx hb dX0_extensionForm_15 (by decide) ?_
          refine lv_iload_n hx hb dX0_extensionForm_18 rfl (lv_at hl 1 rfl) ?_
          refine lv_iadd hx hb dX0_extensionForm_19 ?_
          exact W.iret (v := 212 + (nI i)) hx hb hr (fun t ht hW => ⟨⟨212 + (nI i), (), rfl, (by rw [← hw9, ht9]; exact (if_pos c_4).symm), trivial⟩, hS.F ht⟩) hS.2.2 dX0_extensionForm_20
  exact loop2 (5 + 1) 5 0 (by omega) rfl rfl _ _ hP hS ls (lv_sub hl [1, 0] rfl)
set_option maxHeartbeats 4000000 in
set_option maxRecDepth 100000 in
theorem c_X0_shortestForm (l : Launch) (dC : Nat → ClassId) (dI : Nat → Nat → Nat) (tk tw : Nat) (sz : Nat) (k9 : Int32) (x9 : Int64) : Met l yX0_shortestForm wsX0_shortestForm ({ frames := 2, cells := 0, slots := 0, locals := 43 }) (va_Pc [.int k9, .long x9] (p0 sz tk tw)) (va_Qi (fun (r : Int32) (_ : Unit) => r = sF k9 x9) (fun _ _ => True) (va_A [] sz)) 0 0 (va_A [] sz) := by
  refine Met.ofW (cc := cX0_shortestForm) (maxL := 3) (ret := (some .int)) (by decide) rfl ?_
  intro p e s m args below meth c s₁ Bd hml hv
  obtain ⟨rfl, hsz, hZ⟩ := hv
  have hx := Bd.exec
  have hb := Bd.bytes
  have hr := Bd.returns
  have hts := atoms_spec (ws := wsX0_shortestForm) Bd.pre
  have hown : s.vm.findClass RX0 = some m.cls := findClass_of_methodNamed Bd.named
  have hlocks := Bd.notSynchronized
  subst hsz
  generalize hAe : va_A [] s.heap.size = A at hZ ⊢
  have hA : ∀ q : Nat, s.heap.size ≤ q → A q := fun q h => by rw [← hAe]; exact Or.inr h
  have hS : va_S A s.heap s.heap [] := va_S.rf
  have hP : va_P (dC, dI) vwCl [] s.heap := fun k q h => by simp at h
  have hl := lv_entry ([.int k9, .long x9]) (n := 3) (Nat.le_of_ble_eq_true rfl)
  rw [lg_entry_eq]
  generalize (lg_sl ([.int k9, .long x9]) ++ List.replicate (3 - (lg_sl ([.int k9, .long x9])).length) Slot.unset).toArray = ls at hl ⊢
  have hl : lv_has ls 3 [(0, .int k9), (1, .long x9)] := hl
  refine lv_iload_n hx hb dX0_shortestForm_0 rfl (lv_at hl 0 rfl) ?_
  by_cases c_1 : k9 = 1
  · skip
    refine lv_tableIn (tgt := 60) hx hb dX0_shortestForm_1 (by rw [c_1]; decide) (by rw [c_1]; decide) (by rw [c_1] <;> rfl) (by decide) ?_
    refine lv_sipush (v := 192) hx hb dX0_shortestForm_60 (by decide) ?_
    exact W.iret (v := 192) hx hb hr (fun t ht hW => ⟨⟨192, (), rfl, (by unfold sF; rw [if_pos c_1]), trivial⟩, hS.F ht⟩) hS.2.2 dX0_shortestForm_63
  by_cases c_2 : k9 = 2
  · skip
    refine lv_tableIn (tgt := 64) hx hb dX0_shortestForm_1 (by rw [c_2]; decide) (by rw [c_2]; decide) (by rw [c_2] <;> rfl) (by decide) ?_
    refine lv_sipush (v := 194) hx hb dX0_shortestForm_64 (by decide) ?_
    exact W.iret (v := 194) hx hb hr (fun t ht hW => ⟨⟨194, (), rfl, (by unfold sF; rw [if_neg c_1, if_pos c_2]), trivial⟩, hS.F ht⟩) hS.2.2 dX0_shortestForm_67
  by_cases c_3 : k9 = 3
  · skip
    refine lv_tableIn (tgt := 68) hx hb dX0_shortestForm_1 (by rw [c_3]; decide) (by rw [c_3]; decide) (by rw [c_3] <;> rfl) (by decide) ?_
    refine lv_sipush (v := 195) hx hb dX0_shortestForm_68 (by decide) ?_
    exact W.iret (v := 195) hx hb hr (fun t ht hW => ⟨⟨195, (), rfl, (by unfold sF; rw [if_neg c_1, if_neg c_2, if_pos c_3]), trivial⟩, hS.F ht⟩) hS.2.2 dX0_shortestForm_71
  by_cases c_4 : k9 = 4
  · skip
    refine lv_tableIn (tgt := 72) hx hb dX0_shortestForm_1 (by rw [c_4]; decide) (by rw [c_4]; decide) (by rw [c_4] <;> rfl) (by decide) ?_
    refine lv_lload_n hx hb dX0_shortestForm_72 rfl (lv_at hl 1 rfl) ?_
    refine lv_lconst (v := 0) hx hb dX0_shortestForm_73 (by decide) ?_
    refine W.lcmp hx hb dX0_shortestForm_74 ?_
    refine lv_if_lt (tgt := 91) hx hb dX0_shortestForm_75 (by decide) (fun c_5 => ?_) (fun c_5 => ?_)
    · skip
      have c_5 := (lg_cmp_lt x9 (0 : Int64)).mp c_5
      refine lv_sipush (v := 204) hx hb dX0_shortestForm_91 (by decide) ?_
      refine lv_lload_n hx hb dX0_shortestForm_94 rfl (lv_at hl 1 rfl) ?_
      refine gsi (As := [.long x9]) (rest := [.int 204]) ⟨hx, hb, hml, hown, hts⟩ (c_X0_unsignedStep l dC dI tk tw _ x9) (va_cwS 1 hts gX0_shortestForm_X0_unsignedStep rfl rfl rfl (by decide +kernel) ⟨Nat.le_of_ble_eq_true rfl, Nat.le_of_ble_eq_true rfl⟩) hP hS hA hZ rfl hl.1 rfl (Nat.le_of_ble_eq_true rfl) dX0_shortestForm_95 ⟨Nat.le_of_ble_eq_true rfl, Nat.le_of_ble_eq_true rfl⟩ (fun r_7 H locs hw_6 hP hS => ?_)
      obtain rfl : r_7 = us x9 := hw_6
      refine lv_iadd hx hb dX0_shortestForm_98 ?_
      exact W.iret (v := 204 + (us x9)) hx hb hr (fun t ht hW => ⟨⟨204 + (us x9), (), rfl, (by unfold sF; rw [if_neg c_1, if_neg c_2, if_neg c_3, if_pos c_4, if_pos c_5]), trivial⟩, hS.F ht⟩) hS.2.2 dX0_shortestForm_99
    · skip
      have c_5 := (not_congr (lg_cmp_lt x9 (0 : Int64))).mp c_5
      refine lv_lload_n hx hb dX0_shortestForm_78 rfl (lv_at hl 1 rfl) ?_
      refine lv_ldc2 (v := 128) hx hb hown (hts (.constantLong RX0 163 (128)) (by decide +kernel)) dX0_shortestForm_79 ?_
      refine W.lcmp hx hb dX0_shortestForm_82 ?_
      refine lv_if_ge (tgt := 91) hx hb dX0_shortestForm_83 (by decide) (fun c_8 => ?_) (fun c_8 => ?_)
      · skip
        have c_8 := (lg_cmp_ge x9 (128 : Int64)).mp c_8
        refine lv_sipush (v := 204) hx hb dX0_shortestForm_91 (by decide) ?_
        refine lv_lload_n hx hb dX0_shortestForm_94 rfl (lv_at hl 1 rfl) ?_
        refine gsi (As := [.long x9]) (rest := [.int 204]) ⟨hx, hb, hml, hown, hts⟩ (c_X0_unsignedStep l dC dI tk tw _ x9) (va_cwS 1 hts gX0_shortestForm_X0_unsignedStep rfl rfl rfl (by decide +kernel) ⟨Nat.le_of_ble_eq_true rfl, Nat.le_of_ble_eq_true rfl⟩) hP hS hA hZ rfl hl.1 rfl (Nat.le_of_ble_eq_true rfl) dX0_shortestForm_95 ⟨Nat.le_of_ble_eq_true rfl, Nat.le_of_ble_eq_true rfl⟩ (fun r_10 H locs hw_9 hP hS => ?_)
        obtain rfl : r_10 = us x9 := hw_9
        refine lv_iadd hx hb dX0_shortestForm_98 ?_
        exact W.iret (v := 204 + (us x9)) hx hb hr (fun t ht hW => ⟨⟨204 + (us x9), (), rfl, (by unfold sF; rw [if_neg c_1, if_neg c_2, if_neg c_3, if_pos c_4, if_neg c_5, if_pos c_8]), trivial⟩, hS.F ht⟩) hS.2.2 dX0_shortestForm_99
      · skip
        have c_8 := (not_congr (lg_cmp_ge x9 (128 : Int64))).mp c_8
        refine lv_lload_n hx hb dX0_shortestForm_86 rfl (lv_at hl 1 rfl) ?_
        refine lv_l2i hx hb dX0_shortestForm_87 rfl ?_
        refine lv_goto (tgt := 99) hx hb dX0_shortestForm_88 (by decide) ?_
        exact W.iret (v := x9.toInt32) hx hb hr (fun t ht hW => ⟨⟨x9.toInt32, (), rfl, (by unfold sF; rw [if_neg c_1, if_neg c_2, if_neg c_3, if_pos c_4, if_neg c_5, if_neg c_8]), trivial⟩, hS.F ht⟩) hS.2.2 dX0_shortestForm_99
  by_cases c_11 : k9 = 5
  · skip
    refine lv_tableIn (tgt := 100) hx hb dX0_shortestForm_1 (by rw [c_11]; decide) (by rw [c_11]; decide) (by rw [c_11] <;> rfl) (by decide) ?_
    refine lv_lload_n hx hb dX0_shortestForm_100 rfl (lv_at hl 1 rfl) ?_
    refine lv_ldc2 (v := -32) hx hb hown (hts (.constantLong RX0 169 (-32)) (by decide +kernel)) dX0_shortestForm_101 ?_
    refine W.lcmp hx hb dX0_shortestForm_104 ?_
    refine lv_if_lt (tgt := 123) hx hb dX0_shortestForm_105 (by decide) (fun c_12 => ?_) (fun c_12 => ?_)
    · skip
      have c_12 := (lg_cmp_lt x9 (-32 : Int64)).mp c_12
      refine lv_sipush (v := 208) hx hb dX0_shortestForm_123 (by decide) ?_
      refine lv_lload_n hx hb dX0_shortestForm_126 rfl (lv_at hl 1 rfl) ?_
      refine gsi (As := [.long x9]) (rest := [.int 208]) ⟨hx, hb, hml, hown, hts⟩ (c_X0_signedStep l dC dI tk tw _ x9) (va_cwS 1 hts gX0_shortestForm_X0_signedStep rfl rfl rfl (by decide +kernel) ⟨Nat.le_of_ble_eq_true rfl, Nat.le_of_ble_eq_true rfl⟩) hP hS hA hZ rfl hl.1 rfl (Nat.le_of_ble_eq_true rfl) dX0_shortestForm_127 ⟨Nat.le_of_ble_eq_true rfl, Nat.le_of_ble_eq_true rfl⟩ (fun r_14 H locs hw_13 hP hS => ?_)
      obtain rfl : r_14 = ss x9 := hw_13
      refine lv_iadd hx hb dX0_shortestForm_130 ?_
      exact W.iret (v := 208 + (ss x9)) hx hb hr (fun t ht hW => ⟨⟨208 + (ss x9), (), rfl, (by unfold sF; rw [if_neg c_1, if_neg c_2, if_neg c_3, if_neg c_4, if_pos c_11, if_pos c_12]), trivial⟩, hS.F ht⟩) hS.2.2 dX0_shortestForm_131
    · skip
      have c_12 := (not_congr (lg_cmp_lt x9 (-32 : Int64))).mp c_12
      refine lv_lload_n hx hb dX0_shortestForm_108 rfl (lv_at hl 1 rfl) ?_
      refine lv_lconst (v := 0) hx hb dX0_shortestForm_109 (by decide) ?_
      refine W.lcmp hx hb dX0_shortestForm_110 ?_
      refine lv_if_ge (tgt := 123) hx hb dX0_shortestForm_111 (by decide) (fun c_15 => ?_) (fun c_15 => ?_)
      · skip
        have c_15 := (lg_cmp_ge x9 (0 : Int64)).mp c_15
        refine lv_sipush (v := 208) hx hb dX0_shortestForm_123 (by decide) ?_
        refine lv_lload_n hx hb dX0_shortestForm_126 rfl (lv_at hl 1 rfl) ?_
        refine gsi (As := [.long x9]) (rest := [.int 208]) ⟨hx, hb, hml, hown, hts⟩ (c_X0_signedStep l dC dI tk tw _ x9) (va_cwS 1 hts gX0_shortestForm_X0_signedStep rfl rfl rfl (by decide +kernel) ⟨Nat.le_of_ble_eq_true rfl, Nat.le_of_ble_eq_true rfl⟩) hP hS hA hZ rfl hl.1 rfl (Nat.le_of_ble_eq_true rfl) dX0_shortestForm_127 ⟨Nat.le_of_ble_eq_true rfl, Nat.le_of_ble_eq_true rfl⟩ (fun r_17 H locs hw_16 hP hS => ?_)
        obtain rfl : r_17 = ss x9 := hw_16
        refine lv_iadd hx hb dX0_shortestForm_130 ?_
        exact W.iret (v := 208 + (ss x9)) hx hb hr (fun t ht hW => ⟨⟨208 + (ss x9), (), rfl, (by unfold sF; rw [if_neg c_1, if_neg c_2, if_neg c_3, if_neg c_4, if_pos c_11, if_neg c_12, if_pos c_15]), trivial⟩, hS.F ht⟩) hS.2.2 dX0_shortestForm_131
      · skip
        have c_15 := (not_congr (lg_cmp_ge x9 (0 : Int64))).mp c_15
        refine lv_sipush (v := 256) hx hb dX0_shortestForm_114 (by decide) ?_
        refine lv_lload_n hx hb dX0_shortestForm_117 rfl (lv_at hl 1 rfl) ?_
        refine lv_l2i hx hb dX0_shortestForm_118 rfl ?_
        refine lv_iadd hx hb dX0_shortestForm_119 ?_
        refine lv_goto (tgt := 131) hx hb dX0_shortestForm_120 (by decide) ?_
        exact W.iret (v := 256 + x9.toInt32) hx hb hr (fun t ht hW => ⟨⟨256 + x9.toInt32, (), rfl, (by unfold sF; rw [if_neg c_1, if_neg c_2, if_neg c_3, if_neg c_4, if_pos c_11, if_neg c_12, if_neg c_15]), trivial⟩, hS.F ht⟩) hS.2.2 dX0_shortestForm_131
  by_cases c_18 : k9 = 6
  · skip
    refine lv_tableIn (tgt := 132) hx hb dX0_shortestForm_1 (by rw [c_18]; decide) (by rw [c_18]; decide) (by rw [c_18] <;> rfl) (by decide) ?_
    refine lv_sipush (v := 202) hx hb dX0_shortestForm_132 (by decide) ?_
    exact W.iret (v := 202) hx hb hr (fun t ht hW => ⟨⟨202, (), rfl, (by unfold sF; rw [if_neg c_1, if_neg c_2, if_neg c_3, if_neg c_4, if_neg c_11, if_pos c_18]), trivial⟩, hS.F ht⟩) hS.2.2 dX0_shortestForm_135
  by_cases c_19 : k9 = 7
  · skip
    refine lv_tableIn (tgt := 136) hx hb dX0_shortestForm_1 (by rw [c_19]; decide) (by rw [c_19]; decide) (by rw [c_19] <;> rfl) (by decide) ?_
    refine lv_sipush (v := 203) hx hb dX0_shortestForm_136 (by decide) ?_
    exact W.iret (v := 203) hx hb hr (fun t ht hW => ⟨⟨203, (), rfl, (by unfold sF; rw [if_neg c_1, if_neg c_2, if_neg c_3, if_neg c_4, if_neg c_11, if_neg c_18, if_pos c_19]), trivial⟩, hS.F ht⟩) hS.2.2 dX0_shortestForm_139
  by_cases c_20 : k9 = 8
  · skip
    refine lv_tableIn (tgt := 140) hx hb dX0_shortestForm_1 (by rw [c_20]; decide) (by rw [c_20]; decide) (by rw [c_20] <;> rfl) (by decide) ?_
    refine lv_lload_n hx hb dX0_shortestForm_140 rfl (lv_at hl 1 rfl) ?_
    refine lv_ldc2 (v := 32) hx hb hown (hts (.constantLong RX0 174 (32)) (by decide +kernel)) dX0_shortestForm_141 ?_
    refine W.lcmp hx hb dX0_shortestForm_144 ?_
    refine lv_if_ge (tgt := 157) hx hb dX0_shortestForm_145 (by decide) (fun c_21 => ?_) (fun c_21 => ?_)
    · skip
      have c_21 := (lg_cmp_ge x9 (32 : Int64)).mp c_21
      refine lv_sipush (v := 217) hx hb dX0_shortestForm_157 (by decide) ?_
      refine lv_lload_n hx hb dX0_shortestForm_160 rfl (lv_at hl 1 rfl) ?_
      refine gsi (As := [.long x9]) (rest := [.int 217]) ⟨hx, hb, hml, hown, hts⟩ (c_X0_unsignedStep l dC dI tk tw _ x9) (va_cwS 1 hts gX0_shortestForm_X0_unsignedStep rfl rfl rfl (by decide +kernel) ⟨Nat.le_of_ble_eq_true rfl, Nat.le_of_ble_eq_true rfl⟩) hP hS hA hZ rfl hl.1 rfl (Nat.le_of_ble_eq_true rfl) dX0_shortestForm_161 ⟨Nat.le_of_ble_eq_true rfl, Nat.le_of_ble_eq_true rfl⟩ (fun r_23 H locs hw_22 hP hS => ?_)
      obtain rfl : r_23 = us x9 := hw_22
      refine lv_iadd hx hb dX0_shortestForm_164 ?_
      exact W.iret (v := 217 + (us x9)) hx hb hr (fun t ht hW => ⟨⟨217 + (us x9), (), rfl, (by unfold sF; rw [if_neg c_1, if_neg c_2, if_neg c_3, if_neg c_4, if_neg c_11, if_neg c_18, if_neg c_19, if_pos c_20, if_pos c_21]), trivial⟩, hS.F ht⟩) hS.2.2 dX0_shortestForm_165
    · skip
      have c_21 := (not_congr (lg_cmp_ge x9 (32 : Int64))).mp c_21
      refine lv_sipush (v := 160) hx hb dX0_shortestForm_148 (by decide) ?_
      refine lv_lload_n hx hb dX0_shortestForm_151 rfl (lv_at hl 1 rfl) ?_
      refine lv_l2i hx hb dX0_shortestForm_152 rfl ?_
      refine lv_iadd hx hb dX0_shortestForm_153 ?_
      refine lv_goto (tgt := 165) hx hb dX0_shortestForm_154 (by decide) ?_
      exact W.iret (v := 160 + x9.toInt32) hx hb hr (fun t ht hW => ⟨⟨160 + x9.toInt32, (), rfl, (by unfold sF; rw [if_neg c_1, if_neg c_2, if_neg c_3, if_neg c_4, if_neg c_11, if_neg c_18, if_neg c_19, if_pos c_20, if_neg c_21]), trivial⟩, hS.F ht⟩) hS.2.2 dX0_shortestForm_165
  by_cases c_24 : k9 = 9
  · skip
    refine lv_tableIn (tgt := 166) hx hb dX0_shortestForm_1 (by rw [c_24]; decide) (by rw [c_24]; decide) (by rw [c_24] <;> rfl) (by decide) ?_
    refine lv_sipush (v := 196) hx hb dX0_shortestForm_166 (by decide) ?_
    refine lv_lload_n hx hb dX0_shortestForm_169 rfl (lv_at hl 1 rfl) ?_
    refine gsi (As := [.long x9]) (rest := [.int 196]) ⟨hx, hb, hml, hown, hts⟩ (c_X0_unsignedStep l dC dI tk tw _ x9) (va_cwS 1 hts gX0_shortestForm_X0_unsignedStep rfl rfl rfl (by decide +kernel) ⟨Nat.le_of_ble_eq_true rfl, Nat.le_of_ble_eq_true rfl⟩) hP hS hA hZ rfl hl.1 rfl (Nat.le_of_ble_eq_true rfl) dX0_shortestForm_170 ⟨Nat.le_of_ble_eq_true rfl, Nat.le_of_ble_eq_true rfl⟩ (fun r_26 H locs hw_25 hP hS => ?_)
    obtain rfl : r_26 = us x9 := hw_25
    refine lv_iadd hx hb dX0_shortestForm_173 ?_
    exact W.iret (v := 196 + (us x9)) hx hb hr (fun t ht hW => ⟨⟨196 + (us x9), (), rfl, (by unfold sF; rw [if_neg c_1, if_neg c_2, if_neg c_3, if_neg c_4, if_neg c_11, if_neg c_18, if_neg c_19, if_neg c_20, if_pos c_24]), trivial⟩, hS.F ht⟩) hS.2.2 dX0_shortestForm_174
  by_cases c_27 : k9 = 10
  · skip
    refine lv_tableIn (tgt := 175) hx hb dX0_shortestForm_1 (by rw [c_27]; decide) (by rw [c_27]; decide) (by rw [c_27] <;> rfl) (by decide) ?_
    refine lv_lload_n hx hb dX0_shortestForm_175 rfl (lv_at hl 1 rfl) ?_
    refine lv_ldc2 (v := 16) hx hb hown (hts (.constantLong RX0 176 (16)) (by decide +kernel)) dX0_shortestForm_176 ?_
    refine W.lcmp hx hb dX0_shortestForm_179 ?_
    refine lv_if_ge (tgt := 192) hx hb dX0_shortestForm_180 (by decide) (fun c_28 => ?_) (fun c_28 => ?_)
    · skip
      have c_28 := (lg_cmp_ge x9 (16 : Int64)).mp c_28
      refine lv_sipush (v := 220) hx hb dX0_shortestForm_192 (by decide) ?_
      refine lv_lload_n hx hb dX0_shortestForm_195 rfl (lv_at hl 1 rfl) ?_
      refine gsi (As := [.long x9]) (rest := [.int 220]) ⟨hx, hb, hml, hown, hts⟩ (c_X0_countStep l dC dI tk tw _ x9) (va_cwS 1 hts gX0_shortestForm_X0_countStep rfl rfl rfl (by decide +kernel) ⟨Nat.le_of_ble_eq_true rfl, Nat.le_of_ble_eq_true rfl⟩) hP hS hA hZ rfl hl.1 rfl (Nat.le_of_ble_eq_true rfl) dX0_shortestForm_196 ⟨Nat.le_of_ble_eq_true rfl, Nat.le_of_ble_eq_true rfl⟩ (fun r_30 H locs hw_29 hP hS => ?_)
      obtain rfl : r_30 = cs x9 := hw_29
      refine lv_iadd hx hb dX0_shortestForm_199 ?_
      exact W.iret (v := 220 + (cs x9)) hx hb hr (fun t ht hW => ⟨⟨220 + (cs x9), (), rfl, (by unfold sF; rw [if_neg c_1, if_neg c_2, if_neg c_3, if_neg c_4, if_neg c_11, if_neg c_18, if_neg c_19, if_neg c_20, if_neg c_24, if_pos c_27, if_pos c_28]), trivial⟩, hS.F ht⟩) hS.2.2 dX0_shortestForm_200
    · skip
      have c_28 := (not_congr (lg_cmp_ge x9 (16 : Int64))).mp c_28
      refine lv_sipush (v := 144) hx hb dX0_shortestForm_183 (by decide) ?_
      refine lv_lload_n hx hb dX0_shortestForm_186 rfl (lv_at hl 1 rfl) ?_
      refine lv_l2i hx hb dX0_shortestForm_187 rfl ?_
      refine lv_iadd hx hb dX0_shortestForm_188 ?_
      refine lv_goto (tgt := 200) hx hb dX0_shortestForm_189 (by decide) ?_
      exact W.iret (v := 144 + x9.toInt32) hx hb hr (fun t ht hW => ⟨⟨144 + x9.toInt32, (), rfl, (by unfold sF; rw [if_neg c_1, if_neg c_2, if_neg c_3, if_neg c_4, if_neg c_11, if_neg c_18, if_neg c_19, if_neg c_20, if_neg c_24, if_pos c_27, if_neg c_28]), trivial⟩, hS.F ht⟩) hS.2.2 dX0_shortestForm_200
  by_cases c_31 : k9 = 11
  · skip
    refine lv_tableIn (tgt := 201) hx hb dX0_shortestForm_1 (by rw [c_31]; decide) (by rw [c_31]; decide) (by rw [c_31] <;> rfl) (by decide) ?_
    refine lv_lload_n hx hb dX0_shortestForm_201 rfl (lv_at hl 1 rfl) ?_
    refine lv_ldc2 (v := 16) hx hb hown (hts (.constantLong RX0 176 (16)) (by decide +kernel)) dX0_shortestForm_202 ?_
    refine W.lcmp hx hb dX0_shortestForm_205 ?_
    refine lv_if_ge (tgt := 218) hx hb dX0_shortestForm_206 (by decide) (fun c_32 => ?_) (fun c_32 => ?_)
    · skip
      have c_32 := (lg_cmp_ge x9 (16 : Int64)).mp c_32
      refine lv_sipush (v := 222) hx hb dX0_shortestForm_218 (by decide) ?_
      refine lv_lload_n hx hb dX0_shortestForm_221 rfl (lv_at hl 1 rfl) ?_
      refine gsi (As := [.long x9]) (rest := [.int 222]) ⟨hx, hb, hml, hown, hts⟩ (c_X0_countStep l dC dI tk tw _ x9) (va_cwS 1 hts gX0_shortestForm_X0_countStep rfl rfl rfl (by decide +kernel) ⟨Nat.le_of_ble_eq_true rfl, Nat.le_of_ble_eq_true rfl⟩) hP hS hA hZ rfl hl.1 rfl (Nat.le_of_ble_eq_true rfl) dX0_shortestForm_222 ⟨Nat.le_of_ble_eq_true rfl, Nat.le_of_ble_eq_true rfl⟩ (fun r_34 H locs hw_33 hP hS => ?_)
      obtain rfl : r_34 = cs x9 := hw_33
      refine lv_iadd hx hb dX0_shortestForm_225 ?_
      exact W.iret (v := 222 + (cs x9)) hx hb hr (fun t ht hW => ⟨⟨222 + (cs x9), (), rfl, (by unfold sF; rw [if_neg c_1, if_neg c_2, if_neg c_3, if_neg c_4, if_neg c_11, if_neg c_18, if_neg c_19, if_neg c_20, if_neg c_24, if_neg c_27, if_pos c_31, if_pos c_32]), trivial⟩, hS.F ht⟩) hS.2.2 dX0_shortestForm_226
    · skip
      have c_32 := (not_congr (lg_cmp_ge x9 (16 : Int64))).mp c_32
      refine lv_sipush (v := 128) hx hb dX0_shortestForm_209 (by decide) ?_
      refine lv_lload_n hx hb dX0_shortestForm_212 rfl (lv_at hl 1 rfl) ?_
      refine lv_l2i hx hb dX0_shortestForm_213 rfl ?_
      refine lv_iadd hx hb dX0_shortestForm_214 ?_
      refine lv_goto (tgt := 226) hx hb dX0_shortestForm_215 (by decide) ?_
      exact W.iret (v := 128 + x9.toInt32) hx hb hr (fun t ht hW => ⟨⟨128 + x9.toInt32, (), rfl, (by unfold sF; rw [if_neg c_1, if_neg c_2, if_neg c_3, if_neg c_4, if_neg c_11, if_neg c_18, if_neg c_19, if_neg c_20, if_neg c_24, if_neg c_27, if_pos c_31, if_neg c_32]), trivial⟩, hS.F ht⟩) hS.2.2 dX0_shortestForm_226
  refine lv_tableOut (tgt := 227) hx hb dX0_shortestForm_1 (by have := lv_neT (a := 1) c_1 (by decide); have := lv_neT (a := 2) c_2 (by decide); have := lv_neT (a := 3) c_3 (by decide); have := lv_neT (a := 4) c_4 (by decide); have := lv_neT (a := 5) c_11 (by decide); have := lv_neT (a := 6) c_18 (by decide); have := lv_neT (a := 7) c_19 (by decide); have := lv_neT (a := 8) c_20 (by decide); have := lv_neT (a := 9) c_24 (by decide); have := lv_neT (a := 10) c_27 (by decide); have := lv_neT (a := 11) c_31 (by decide); omega) (by decide) ?_
  refine lv_lload_n hx hb dX0_shortestForm_227 rfl (lv_at hl 1 rfl) ?_
  refine gsi (As := [.long x9]) (rest := []) ⟨hx, hb, hml, hown, hts⟩ (c_X0_extensionForm l dC dI tk tw _ x9) (va_cwS 1 hts gX0_shortestForm_X0_extensionForm rfl rfl rfl (by decide +kernel) ⟨Nat.le_of_ble_eq_true rfl, Nat.le_of_ble_eq_true rfl⟩) hP hS hA hZ rfl hl.1 rfl (Nat.le_of_ble_eq_true rfl) dX0_shortestForm_228 ⟨Nat.le_of_ble_eq_true rfl, Nat.le_of_ble_eq_true rfl⟩ (fun r_36 H locs hw_35 hP hS => ?_)
  obtain rfl : r_36 = eF x9 5 0 := hw_35
  exact W.iret (v := eF x9 5 0) hx hb hr (fun t ht hW => ⟨⟨eF x9 5 0, (), rfl, (by unfold sF; rw [if_neg c_1, if_neg c_2, if_neg c_3, if_neg c_4, if_neg c_11, if_neg c_18, if_neg c_19, if_neg c_20, if_neg c_24, if_neg c_27, if_neg c_31]), trivial⟩, hS.F ht⟩) hS.2.2 dX0_shortestForm_231
end
section
theorem andB {p : Prop} [Decidable p] {b : Bool} (h : p) (hb : b = true) : (decide p && b) = true := by rw [hb, decide_eq_true h]; rfl
theorem ax_X1_widthOf_1 : ∀ b, b < 256 → ((nI b) = 196) → (1 : Int32) = nI (wd b) := by decide +kernel
theorem ax_X1_widthOf_2 : ∀ b, b < 256 → ((nI b) = 197) → (2 : Int32) = nI (wd b) := by decide +kernel
theorem ax_X1_widthOf_3 : ∀ b, b < 256 → ((nI b) = 198) → (4 : Int32) = nI (wd b) := by decide +kernel
theorem ax_X1_widthOf_4 : ∀ b, b < 256 → ((nI b) = 199) → (1 : Int32) = nI (wd b) := by decide +kernel
theorem ax_X1_widthOf_5 : ∀ b, b < 256 → ((nI b) = 200) → (2 : Int32) = nI (wd b) := by decide +kernel
theorem ax_X1_widthOf_6 : ∀ b, b < 256 → ((nI b) = 201) → (4 : Int32) = nI (wd b) := by decide +kernel
theorem ax_X1_widthOf_7 : ∀ b, b < 256 → ((nI b) = 202) → (4 : Int32) = nI (wd b) := by decide +kernel
theorem ax_X1_widthOf_8 : ∀ b, b < 256 → ((nI b) = 203) → (8 : Int32) = nI (wd b) := by decide +kernel
theorem ax_X1_widthOf_9 : ∀ b, b < 256 → ((nI b) = 204) → (1 : Int32) = nI (wd b) := by decide +kernel
theorem ax_X1_widthOf_10 : ∀ b, b < 256 → ((nI b) = 205) → (2 : Int32) = nI (wd b) := by decide +kernel
theorem ax_X1_widthOf_11 : ∀ b, b < 256 → ((nI b) = 206) → (4 : Int32) = nI (wd b) := by decide +kernel
theorem ax_X1_widthOf_12 : ∀ b, b < 256 → ((nI b) = 207) → (8 : Int32) = nI (wd b) := by decide +kernel
theorem ax_X1_widthOf_13 : ∀ b, b < 256 → ((nI b) = 208) → (1 : Int32) = nI (wd b) := by decide +kernel
theorem ax_X1_widthOf_14 : ∀ b, b < 256 → ((nI b) = 209) → (2 : Int32) = nI (wd b) := by decide +kernel
theorem ax_X1_widthOf_15 : ∀ b, b < 256 → ((nI b) = 210) → (4 : Int32) = nI (wd b) := by decide +kernel
theorem ax_X1_widthOf_16 : ∀ b, b < 256 → ((nI b) = 211) → (8 : Int32) = nI (wd b) := by decide +kernel
theorem ax_X1_widthOf_17 : ∀ b, b < 256 → ((nI b) = 212) → (0 : Int32) = nI (wd b) := by decide +kernel
theorem ax_X1_widthOf_18 : ∀ b, b < 256 → ((nI b) = 213) → (0 : Int32) = nI (wd b) := by decide +kernel
theorem ax_X1_widthOf_19 : ∀ b, b < 256 → ((nI b) = 214) → (0 : Int32) = nI (wd b) := by decide +kernel
theorem ax_X1_widthOf_20 : ∀ b, b < 256 → ((nI b) = 215) → (0 : Int32) = nI (wd b) := by decide +kernel
theorem ax_X1_widthOf_21 : ∀ b, b < 256 → ((nI b) = 216) → (0 : Int32) = nI (wd b) := by decide +kernel
theorem ax_X1_widthOf_22 : ∀ b, b < 256 → ((nI b) = 217) → (1 : Int32) = nI (wd b) := by decide +kernel
theorem ax_X1_widthOf_23 : ∀ b, b < 256 → ((nI b) = 218) → (2 : Int32) = nI (wd b) := by decide +kernel
theorem ax_X1_widthOf_24 : ∀ b, b < 256 → ((nI b) = 219) → (4 : Int32) = nI (wd b) := by decide +kernel
theorem ax_X1_widthOf_25 : ∀ b, b < 256 → ((nI b) = 220) → (2 : Int32) = nI (wd b) := by decide +kernel
theorem ax_X1_widthOf_26 : ∀ b, b < 256 → ((nI b) = 221) → (4 : Int32) = nI (wd b) := by decide +kernel
theorem ax_X1_widthOf_27 : ∀ b, b < 256 → ((nI b) = 222) → (2 : Int32) = nI (wd b) := by decide +kernel
theorem ax_X1_widthOf_28 : ∀ b, b < 256 → ((nI b) = 223) → (4 : Int32) = nI (wd b) := by decide +kernel
theorem ax_X1_widthOf_29 : ∀ b, b < 256 → ([196, 197, 198, 199, 200, 201, 202, 203, 204, 205, 206, 207, 208, 209, 210, 211, 212, 213, 214, 215, 216, 217, 218, 219, 220, 221, 222, 223] : List Int32).all (fun k => decide (¬ nI b = k)) = true → (0 : Int32) = nI (wd b) := by decide +kernel
set_option maxHeartbeats 4000000 in
set_option maxRecDepth 100000 in
theorem c_X1_widthOf (l : Launch) (dC : Nat → ClassId) (dI : Nat → Nat → Nat) (tk tw : Nat) (sz : Nat) (b9 : Nat) (hb9 : b9 < 256) : Met l yX1_widthOf wsX1_widthOf ({ frames := 0, cells := 0, slots := 0, locals := 0 }) (va_Pc [.int (nI b9)] (p0 sz tk tw)) (va_Qi (fun (r : Int32) (_ : Unit) => r = nI (wd b9)) (fun _ _ => True) (va_A [] sz)) 0 0 (va_A [] sz) := by
  refine Met.ofW (cc := cX1_widthOf) (maxL := 1) (ret := (some .int)) (by decide) rfl ?_
  intro p e s m args below meth c s₁ Bd hml hv
  obtain ⟨rfl, hsz, hZ⟩ := hv
  have hx := Bd.exec
  have hb := Bd.bytes
  have hr := Bd.returns
  have hts := atoms_spec (ws := wsX1_widthOf) Bd.pre
  have hown : s.vm.findClass RX1 = some m.cls := findClass_of_methodNamed Bd.named
  have hlocks := Bd.notSynchronized
  subst hsz
  generalize hAe : va_A [] s.heap.size = A at hZ ⊢
  have hA : ∀ q : Nat, s.heap.size ≤ q → A q := fun q h => by rw [← hAe]; exact Or.inr h
  have hS : va_S A s.heap s.heap [] := va_S.rf
  have hP : va_P (dC, dI) vwCl [] s.heap := fun k q h => by simp at h
  have hl := lv_entry ([.int (nI b9)]) (n := 1) (Nat.le_of_ble_eq_true rfl)
  rw [lg_entry_eq]
  generalize (lg_sl ([.int (nI b9)]) ++ List.replicate (1 - (lg_sl ([.int (nI b9)])).length) Slot.unset).toArray = ls at hl ⊢
  have hl : lv_has ls 1 [(0, .int (nI b9))] := hl
  refine lv_iload_n hx hb dX1_widthOf_0 rfl (lv_at hl 0 rfl) ?_
  by_cases c_1 : (nI b9) = 196
  · skip
    refine lv_tableIn (tgt := 128) hx hb dX1_widthOf_1 (by rw [c_1]; decide) (by rw [c_1]; decide) (by rw [c_1] <;> rfl) (by decide) ?_
    refine lv_iconst (v := 1) hx hb dX1_widthOf_128 (by decide) ?_
    exact W.iret (v := 1) hx hb hr (fun t ht hW => ⟨⟨1, (), rfl, (ax_X1_widthOf_1 b9 hb9 c_1), trivial⟩, hS.F ht⟩) hS.2.2 dX1_widthOf_129
  by_cases c_2 : (nI b9) = 197
  · skip
    refine lv_tableIn (tgt := 130) hx hb dX1_widthOf_1 (by rw [c_2]; decide) (by rw [c_2]; decide) (by rw [c_2] <;> rfl) (by decide) ?_
    refine lv_iconst (v := 2) hx hb dX1_widthOf_130 (by decide) ?_
    exact W.iret (v := 2) hx hb hr (fun t ht hW => ⟨⟨2, (), rfl, (ax_X1_widthOf_2 b9 hb9 c_2), trivial⟩, hS.F ht⟩) hS.2.2 dX1_widthOf_131
  by_cases c_3 : (nI b9) = 198
  · skip
    refine lv_tableIn (tgt := 132) hx hb dX1_widthOf_1 (by rw [c_3]; decide) (by rw [c_3]; decide) (by rw [c_3] <;> rfl) (by decide) ?_
    refine lv_iconst (v := 4) hx hb dX1_widthOf_132 (by decide) ?_
    exact W.iret (v := 4) hx hb hr (fun t ht hW => ⟨⟨4, (), rfl, (ax_X1_widthOf_3 b9 hb9 c_3), trivial⟩, hS.F ht⟩) hS.2.2 dX1_widthOf_133
  by_cases c_4 : (nI b9) = 199
  · skip
    refine lv_tableIn (tgt := 128) hx hb dX1_widthOf_1 (by rw [c_4]; decide) (by rw [c_4]; decide) (by rw [c_4] <;> rfl) (by decide) ?_
    refine lv_iconst (v := 1) hx hb dX1_widthOf_128 (by decide) ?_
    exact W.iret (v := 1) hx hb hr (fun t ht hW => ⟨⟨1, (), rfl, (ax_X1_widthOf_4 b9 hb9 c_4), trivial⟩, hS.F ht⟩) hS.2.2 dX1_widthOf_129
  by_cases c_5 : (nI b9) = 200
  · skip
    refine lv_tableIn (tgt := 130) hx hb dX1_widthOf_1 (by rw [c_5]; decide) (by rw [c_5]; decide) (by rw [c_5] <;> rfl) (by decide) ?_
    refine lv_iconst (v := 2) hx hb dX1_widthOf_130 (by decide) ?_
    exact W.iret (v := 2) hx hb hr (fun t ht hW => ⟨⟨2, (), rfl, (ax_X1_widthOf_5 b9 hb9 c_5), trivial⟩, hS.F ht⟩) hS.2.2 dX1_widthOf_131
  by_cases c_6 : (nI b9) = 201
  · skip
    refine lv_tableIn (tgt := 132) hx hb dX1_widthOf_1 (by rw [c_6]; decide) (by rw [c_6]; decide) (by rw [c_6] <;> rfl) (by decide) ?_
    refine lv_iconst (v := 4) hx hb dX1_widthOf_132 (by decide) ?_
    exact W.iret (v := 4) hx hb hr (fun t ht hW => ⟨⟨4, (), rfl, (ax_X1_widthOf_6 b9 hb9 c_6), trivial⟩, hS.F ht⟩) hS.2.2 dX1_widthOf_133
  by_cases c_7 : (nI b9) = 202
  · skip
    refine lv_tableIn (tgt := 132) hx hb dX1_widthOf_1 (by rw [c_7]; decide) (by rw [c_7]; decide) (by rw [c_7] <;> rfl) (by decide) ?_
    refine lv_iconst (v := 4) hx hb dX1_widthOf_132 (by decide) ?_
    exact W.iret (v := 4) hx hb hr (fun t ht hW => ⟨⟨4, (), rfl, (ax_X1_widthOf_7 b9 hb9 c_7), trivial⟩, hS.F ht⟩) hS.2.2 dX1_widthOf_133
  by_cases c_8 : (nI b9) = 203
  · skip
    refine lv_tableIn (tgt := 134) hx hb dX1_widthOf_1 (by rw [c_8]; decide) (by rw [c_8]; decide) (by rw [c_8] <;> rfl) (by decide) ?_
    refine lv_bipush (v := 8) hx hb dX1_widthOf_134 (by decide) ?_
    exact W.iret (v := 8) hx hb hr (fun t ht hW => ⟨⟨8, (), rfl, (ax_X1_widthOf_8 b9 hb9 c_8), trivial⟩, hS.F ht⟩) hS.2.2 dX1_widthOf_136
  by_cases c_9 : (nI b9) = 204
  · skip
    refine lv_tableIn (tgt := 128) hx hb dX1_widthOf_1 (by rw [c_9]; decide) (by rw [c_9]; decide) (by rw [c_9] <;> rfl) (by decide) ?_
    refine lv_iconst (v := 1) hx hb dX1_widthOf_128 (by decide) ?_
    exact W.iret (v := 1) hx hb hr (fun t ht hW => ⟨⟨1, (), rfl, (ax_X1_widthOf_9 b9 hb9 c_9), trivial⟩, hS.F ht⟩) hS.2.2 dX1_widthOf_129
  by_cases c_10 : (nI b9) = 205
  · skip
    refine lv_tableIn (tgt := 130) hx hb dX1_widthOf_1 (by rw [c_10]; decide) (by rw [c_10]; decide) (by rw [c_10] <;> rfl) (by decide) ?_
    refine lv_iconst (v := 2) hx hb dX1_widthOf_130 (by decide) ?_
    exact W.iret (v := 2) hx hb hr (fun t ht hW => ⟨⟨2, (), rfl, (ax_X1_widthOf_10 b9 hb9 c_10), trivial⟩, hS.F ht⟩) hS.2.2 dX1_widthOf_131
  by_cases c_11 : (nI b9) = 206
  · skip
    refine lv_tableIn (tgt := 132) hx hb dX1_widthOf_1 (by rw [c_11]; decide) (by rw [c_11]; decide) (by rw [c_11] <;> rfl) (by decide) ?_
    refine lv_iconst (v := 4) hx hb dX1_widthOf_132 (by decide) ?_
    exact W.iret (v := 4) hx hb hr (fun t ht hW => ⟨⟨4, (), rfl, (ax_X1_widthOf_11 b9 hb9 c_11), trivial⟩, hS.F ht⟩) hS.2.2 dX1_widthOf_133
  by_cases c_12 : (nI b9) = 207
  · skip
    refine lv_tableIn (tgt := 134) hx hb dX1_widthOf_1 (by rw [c_12]; decide) (by rw [c_12]; decide) (by rw [c_12] <;> rfl) (by decide) ?_
    refine lv_bipush (v := 8) hx hb dX1_widthOf_134 (by decide) ?_
    exact W.iret (v := 8) hx hb hr (fun t ht hW => ⟨⟨8, (), rfl, (ax_X1_widthOf_12 b9 hb9 c_12), trivial⟩, hS.F ht⟩) hS.2.2 dX1_widthOf_136
  by_cases c_13 : (nI b9) = 208
  · skip
    refine lv_tableIn (tgt := 128) hx hb dX1_widthOf_1 (by rw [c_13]; decide) (by rw [c_13]; decide) (by rw [c_13] <;> rfl) (by decide) ?_
    refine lv_iconst (v := 1) hx hb dX1_widthOf_128 (by decide) ?_
    exact W.iret (v := 1) hx hb hr (fun t ht hW => ⟨⟨1, (), rfl, (ax_X1_widthOf_13 b9 hb9 c_13), trivial⟩, hS.F ht⟩) hS.2.2 dX1_widthOf_129
  by_cases c_14 : (nI b9) = 209
  · skip
    refine lv_tableIn (tgt := 130) hx hb dX1_widthOf_1 (by rw [c_14]; decide) (by rw [c_14]; decide) (by rw [c_14] <;> rfl) (by decide) ?_
    refine lv_iconst (v := 2) hx hb dX1_widthOf_130 (by decide) ?_
    exact W.iret (v := 2) hx hb hr (fun t ht hW => ⟨⟨2, (), rfl, (ax_X1_widthOf_14 b9 hb9 c_14), trivial⟩, hS.F ht⟩) hS.2.2 dX1_widthOf_131
  by_cases c_15 : (nI b9) = 210
  · skip
    refine lv_tableIn (tgt := 132) hx hb dX1_widthOf_1 (by rw [c_15]; decide) (by rw [c_15]; decide) (by rw [c_15] <;> rfl) (by decide) ?_
    refine lv_iconst (v := 4) hx hb dX1_widthOf_132 (by decide) ?_
    exact W.iret (v := 4) hx hb hr (fun t ht hW => ⟨⟨4, (), rfl, (ax_X1_widthOf_15 b9 hb9 c_15), trivial⟩, hS.F ht⟩) hS.2.2 dX1_widthOf_133
  by_cases c_16 : (nI b9) = 211
  · skip
    refine lv_tableIn (tgt := 134) hx hb dX1_widthOf_1 (by rw [c_16]; decide) (by rw [c_16]; decide) (by rw [c_16] <;> rfl) (by decide) ?_
    refine lv_bipush (v := 8) hx hb dX1_widthOf_134 (by decide) ?_
    exact W.iret (v := 8) hx hb hr (fun t ht hW => ⟨⟨8, (), rfl, (ax_X1_widthOf_16 b9 hb9 c_16), trivial⟩, hS.F ht⟩) hS.2.2 dX1_widthOf_136
  by_cases c_17 : (nI b9) = 212
  · skip
    refine lv_tableIn (tgt := 137) hx hb dX1_widthOf_1 (by rw [c_17]; decide) (by rw [c_17]; decide) (by rw [c_17] <;> rfl) (by decide) ?_
    refine lv_iconst (v := 0) hx hb dX1_widthOf_137 (by decide) ?_
    exact W.iret (v := 0) hx hb hr (fun t ht hW => ⟨⟨0, (), rfl, (ax_X1_widthOf_17 b9 hb9 c_17), trivial⟩, hS.F ht⟩) hS.2.2 dX1_widthOf_138
  by_cases c_18 : (nI b9) = 213
  · skip
    refine lv_tableIn (tgt := 137) hx hb dX1_widthOf_1 (by rw [c_18]; decide) (by rw [c_18]; decide) (by rw [c_18] <;> rfl) (by decide) ?_
    refine lv_iconst (v := 0) hx hb dX1_widthOf_137 (by decide) ?_
    exact W.iret (v := 0) hx hb hr (fun t ht hW => ⟨⟨0, (), rfl, (ax_X1_widthOf_18 b9 hb9 c_18), trivial⟩, hS.F ht⟩) hS.2.2 dX1_widthOf_138
  by_cases c_19 : (nI b9) = 214
  · skip
    refine lv_tableIn (tgt := 137) hx hb dX1_widthOf_1 (by rw [c_19]; decide) (by rw [c_19]; decide) (by rw [c_19] <;> rfl) (by decide) ?_
    refine lv_iconst (v := 0) hx hb dX1_widthOf_137 (by decide) ?_
    exact W.iret (v := 0) hx hb hr (fun t ht hW => ⟨⟨0, (), rfl, (ax_X1_widthOf_19 b9 hb9 c_19), trivial⟩, hS.F ht⟩) hS.2.2 dX1_widthOf_138
  by_cases c_20 : (nI b9) = 215
  · skip
    refine lv_tableIn (tgt := 137) hx hb dX1_widthOf_1 (by rw [c_20]; decide) (by rw [c_20]; decide) (by rw [c_20] <;> rfl) (by decide) ?_
    refine lv_iconst (v := 0) hx hb dX1_widthOf_137 (by decide) ?_
    exact W.iret (v := 0) hx hb hr (fun t ht hW => ⟨⟨0, (), rfl, (ax_X1_widthOf_20 b9 hb9 c_20), trivial⟩, hS.F ht⟩) hS.2.2 dX1_widthOf_138
  by_cases c_21 : (nI b9) = 216
  · skip
    refine lv_tableIn (tgt := 137) hx hb dX1_widthOf_1 (by rw [c_21]; decide) (by rw [c_21]; decide) (by rw [c_21] <;> rfl) (by decide) ?_
    refine lv_iconst (v := 0) hx hb dX1_widthOf_137 (by decide) ?_
    exact W.iret (v := 0) hx hb hr (fun t ht hW => ⟨⟨0, (), rfl, (ax_X1_widthOf_21 b9 hb9 c_21), trivial⟩, hS.F ht⟩) hS.2.2 dX1_widthOf_138
  by_cases c_22 : (nI b9) = 217
  · skip
    refine lv_tableIn (tgt := 128) hx hb dX1_widthOf_1 (by rw [c_22]; decide) (by rw [c_22]; decide) (by rw [c_22] <;> rfl) (by decide) ?_
    refine lv_iconst (v := 1) hx hb dX1_widthOf_128 (by decide) ?_
    exact W.iret (v := 1) hx hb hr (fun t ht hW => ⟨⟨1, (), rfl, (ax_X1_widthOf_22 b9 hb9 c_22), trivial⟩, hS.F ht⟩) hS.2.2 dX1_widthOf_129
  by_cases c_23 : (nI b9) = 218
  · skip
    refine lv_tableIn (tgt := 130) hx hb dX1_widthOf_1 (by rw [c_23]; decide) (by rw [c_23]; decide) (by rw [c_23] <;> rfl) (by decide) ?_
    refine lv_iconst (v := 2) hx hb dX1_widthOf_130 (by decide) ?_
    exact W.iret (v := 2) hx hb hr (fun t ht hW => ⟨⟨2, (), rfl, (ax_X1_widthOf_23 b9 hb9 c_23), trivial⟩, hS.F ht⟩) hS.2.2 dX1_widthOf_131
  by_cases c_24 : (nI b9) = 219
  · skip
    refine lv_tableIn (tgt := 132) hx hb dX1_widthOf_1 (by rw [c_24]; decide) (by rw [c_24]; decide) (by rw [c_24] <;> rfl) (by decide) ?_
    refine lv_iconst (v := 4) hx hb dX1_widthOf_132 (by decide) ?_
    exact W.iret (v := 4) hx hb hr (fun t ht hW => ⟨⟨4, (), rfl, (ax_X1_widthOf_24 b9 hb9 c_24), trivial⟩, hS.F ht⟩) hS.2.2 dX1_widthOf_133
  by_cases c_25 : (nI b9) = 220
  · skip
    refine lv_tableIn (tgt := 130) hx hb dX1_widthOf_1 (by rw [c_25]; decide) (by rw [c_25]; decide) (by rw [c_25] <;> rfl) (by decide) ?_
    refine lv_iconst (v := 2) hx hb dX1_widthOf_130 (by decide) ?_
    exact W.iret (v := 2) hx hb hr (fun t ht hW => ⟨⟨2, (), rfl, (ax_X1_widthOf_25 b9 hb9 c_25), trivial⟩, hS.F ht⟩) hS.2.2 dX1_widthOf_131
  by_cases c_26 : (nI b9) = 221
  · skip
    refine lv_tableIn (tgt := 132) hx hb dX1_widthOf_1 (by rw [c_26]; decide) (by rw [c_26]; decide) (by rw [c_26] <;> rfl) (by decide) ?_
    refine lv_iconst (v := 4) hx hb dX1_widthOf_132 (by decide) ?_
    exact W.iret (v := 4) hx hb hr (fun t ht hW => ⟨⟨4, (), rfl, (ax_X1_widthOf_26 b9 hb9 c_26), trivial⟩, hS.F ht⟩) hS.2.2 dX1_widthOf_133
  by_cases c_27 : (nI b9) = 222
  · skip
    refine lv_tableIn (tgt := 130) hx hb dX1_widthOf_1 (by rw [c_27]; decide) (by rw [c_27]; decide) (by rw [c_27] <;> rfl) (by decide) ?_
    refine lv_iconst (v := 2) hx hb dX1_widthOf_130 (by decide) ?_
    exact W.iret (v := 2) hx hb hr (fun t ht hW => ⟨⟨2, (), rfl, (ax_X1_widthOf_27 b9 hb9 c_27), trivial⟩, hS.F ht⟩) hS.2.2 dX1_widthOf_131
  by_cases c_28 : (nI b9) = 223
  · skip
    refine lv_tableIn (tgt := 132) hx hb dX1_widthOf_1 (by rw [c_28]; decide) (by rw [c_28]; decide) (by rw [c_28] <;> rfl) (by decide) ?_
    refine lv_iconst (v := 4) hx hb dX1_widthOf_132 (by decide) ?_
    exact W.iret (v := 4) hx hb hr (fun t ht hW => ⟨⟨4, (), rfl, (ax_X1_widthOf_28 b9 hb9 c_28), trivial⟩, hS.F ht⟩) hS.2.2 dX1_widthOf_133
  refine lv_tableOut (tgt := 137) hx hb dX1_widthOf_1 (by have := lv_neT (a := 196) c_1 (by decide); have := lv_neT (a := 197) c_2 (by decide); have := lv_neT (a := 198) c_3 (by decide); have := lv_neT (a := 199) c_4 (by decide); have := lv_neT (a := 200) c_5 (by decide); have := lv_neT (a := 201) c_6 (by decide); have := lv_neT (a := 202) c_7 (by decide); have := lv_neT (a := 203) c_8 (by decide); have := lv_neT (a := 204) c_9 (by decide); have := lv_neT (a := 205) c_10 (by decide); have := lv_neT (a := 206) c_11 (by decide); have := lv_neT (a := 207) c_12 (by decide); have := lv_neT (a := 208) c_13 (by decide); have := lv_neT (a := 209) c_14 (by decide); have := lv_neT (a := 210) c_15 (by decide); have := lv_neT (a := 211) c_16 (by decide); have := lv_neT (a := 212) c_17 (by decide); have := lv_neT (a := 213) c_18 (by decide); have := lv_neT (a := 214) c_19 (by decide); have := lv_neT (a := 215) c_20 (by decide); have := lv_neT (a := 216) c_21 (by decide); have := lv_neT (a := 217) c_22 (by decide); have := lv_neT (a := 218) c_23 (by decide); have := lv_neT (a := 219) c_24 (by decide); have := lv_neT (a := 220) c_25 (by decide); have := lv_neT (a := 221) c_26 (by decide); have := lv_neT (a := 222) c_27 (by decide); have := lv_neT (a := 223) c_28 (by decide); omega) (by decide) ?_
  refine lv_iconst (v := 0) hx hb dX1_widthOf_137 (by decide) ?_
  exact W.iret (v := 0) hx hb hr (fun t ht hW => ⟨⟨0, (), rfl, (ax_X1_widthOf_29 b9 hb9  (by simp [c_1, c_2, c_3, c_4, c_5, c_6, c_7, c_8, c_9, c_10, c_11, c_12, c_13, c_14, c_15, c_16, c_17, c_18, c_19, c_20, c_21, c_22, c_23, c_24, c_25, c_26, c_27, c_28])), trivial⟩, hS.F ht⟩) hS.2.2 dX1_widthOf_138
theorem ax_X1_kindOf_1 : ∀ b, b < 256 → ¬ b = 193 → ((nI b) = 192) → (1 : Int32) = nI (kd b) := by decide +kernel
theorem ax_X1_kindOf_2 : ∀ b, b < 256 → ¬ b = 193 → ((nI b) = 193) → (12 : Int32) = nI (kd b) := by decide +kernel
theorem ax_X1_kindOf_3 : ∀ b, b < 256 → ¬ b = 193 → ((nI b) = 194) → (2 : Int32) = nI (kd b) := by decide +kernel
theorem ax_X1_kindOf_4 : ∀ b, b < 256 → ¬ b = 193 → ((nI b) = 195) → (3 : Int32) = nI (kd b) := by decide +kernel
theorem ax_X1_kindOf_5 : ∀ b, b < 256 → ¬ b = 193 → ((nI b) = 196) → (9 : Int32) = nI (kd b) := by decide +kernel
theorem ax_X1_kindOf_6 : ∀ b, b < 256 → ¬ b = 193 → ((nI b) = 197) → (9 : Int32) = nI (kd b) := by decide +kernel
theorem ax_X1_kindOf_7 : ∀ b, b < 256 → ¬ b = 193 → ((nI b) = 198) → (9 : Int32) = nI (kd b) := by decide +kernel
theorem ax_X1_kindOf_8 : ∀ b, b < 256 → ¬ b = 193 → ((nI b) = 199) → (12 : Int32) = nI (kd b) := by decide +kernel
theorem ax_X1_kindOf_9 : ∀ b, b < 256 → ¬ b = 193 → ((nI b) = 200) → (12 : Int32) = nI (kd b) := by decide +kernel
theorem ax_X1_kindOf_10 : ∀ b, b < 256 → ¬ b = 193 → ((nI b) = 201) → (12 : Int32) = nI (kd b) := by decide +kernel
theorem ax_X1_kindOf_11 : ∀ b, b < 256 → ¬ b = 193 → ((nI b) = 202) → (6 : Int32) = nI (kd b) := by decide +kernel
theorem ax_X1_kindOf_12 : ∀ b, b < 256 → ¬ b = 193 → ((nI b) = 203) → (7 : Int32) = nI (kd b) := by decide +kernel
theorem ax_X1_kindOf_13 : ∀ b, b < 256 → ¬ b = 193 → ((nI b) = 204) → (4 : Int32) = nI (kd b) := by decide +kernel
theorem ax_X1_kindOf_14 : ∀ b, b < 256 → ¬ b = 193 → ((nI b) = 205) → (4 : Int32) = nI (kd b) := by decide +kernel
theorem ax_X1_kindOf_15 : ∀ b, b < 256 → ¬ b = 193 → ((nI b) = 206) → (4 : Int32) = nI (kd b) := by decide +kernel
theorem ax_X1_kindOf_16 : ∀ b, b < 256 → ¬ b = 193 → ((nI b) = 207) → (4 : Int32) = nI (kd b) := by decide +kernel
theorem ax_X1_kindOf_17 : ∀ b, b < 256 → ¬ b = 193 → ((nI b) = 208) → (5 : Int32) = nI (kd b) := by decide +kernel
theorem ax_X1_kindOf_18 : ∀ b, b < 256 → ¬ b = 193 → ((nI b) = 209) → (5 : Int32) = nI (kd b) := by decide +kernel
theorem ax_X1_kindOf_19 : ∀ b, b < 256 → ¬ b = 193 → ((nI b) = 210) → (5 : Int32) = nI (kd b) := by decide +kernel
theorem ax_X1_kindOf_20 : ∀ b, b < 256 → ¬ b = 193 → ((nI b) = 211) → (5 : Int32) = nI (kd b) := by decide +kernel
theorem ax_X1_kindOf_21 : ∀ b, b < 256 → ¬ b = 193 → ((nI b) = 212) → (12 : Int32) = nI (kd b) := by decide +kernel
theorem ax_X1_kindOf_22 : ∀ b, b < 256 → ¬ b = 193 → ((nI b) = 213) → (12 : Int32) = nI (kd b) := by decide +kernel
theorem ax_X1_kindOf_23 : ∀ b, b < 256 → ¬ b = 193 → ((nI b) = 214) → (12 : Int32) = nI (kd b) := by decide +kernel
theorem ax_X1_kindOf_24 : ∀ b, b < 256 → ¬ b = 193 → ((nI b) = 215) → (12 : Int32) = nI (kd b) := by decide +kernel
theorem ax_X1_kindOf_25 : ∀ b, b < 256 → ¬ b = 193 → ((nI b) = 216) → (12 : Int32) = nI (kd b) := by decide +kernel
theorem ax_X1_kindOf_26 : ∀ b, b < 256 → ¬ b = 193 → ((nI b) = 217) → (8 : Int32) = nI (kd b) := by decide +kernel
theorem ax_X1_kindOf_27 : ∀ b, b < 256 → ¬ b = 193 → ((nI b) = 218) → (8 : Int32) = nI (kd b) := by decide +kernel
theorem ax_X1_kindOf_28 : ∀ b, b < 256 → ¬ b = 193 → ((nI b) = 219) → (8 : Int32) = nI (kd b) := by decide +kernel
theorem ax_X1_kindOf_29 : ∀ b, b < 256 → ¬ b = 193 → ((nI b) = 220) → (10 : Int32) = nI (kd b) := by decide +kernel
theorem ax_X1_kindOf_30 : ∀ b, b < 256 → ¬ b = 193 → ((nI b) = 221) → (10 : Int32) = nI (kd b) := by decide +kernel
theorem ax_X1_kindOf_31 : ∀ b, b < 256 → ¬ b = 193 → ((nI b) = 222) → (11 : Int32) = nI (kd b) := by decide +kernel
theorem ax_X1_kindOf_32 : ∀ b, b < 256 → ¬ b = 193 → ((nI b) = 223) → (11 : Int32) = nI (kd b) := by decide +kernel
theorem ax_X1_kindOf_33 : ∀ b, b < 256 → ¬ b = 193 → (decide (((128 : Int32) ≤ (nI b))) && (decide (((144 : Int32) ≤ (nI b))) && (decide (((160 : Int32) ≤ (nI b))) && (decide (((192 : Int32) ≤ (nI b))) && (decide (((nI b) ≤ (223 : Int32)))))))) = true → ([192, 193, 194, 195, 196, 197, 198, 199, 200, 201, 202, 203, 204, 205, 206, 207, 208, 209, 210, 211, 212, 213, 214, 215, 216, 217, 218, 219, 220, 221, 222, 223] : List Int32).all (fun k => decide (¬ nI b = k)) = true → (12 : Int32) = nI (kd b) := by decide +kernel
theorem ax_X1_kindOf_34 : ∀ b, b < 256 → ¬ b = 193 → (decide (((128 : Int32) ≤ (nI b))) && (decide (((144 : Int32) ≤ (nI b))) && (decide (((160 : Int32) ≤ (nI b))) && (decide (((192 : Int32) ≤ (nI b))) && (decide (¬ ((nI b) ≤ (223 : Int32)))))))) = true → (5 : Int32) = nI (kd b) := by decide +kernel
theorem ax_X1_kindOf_35 : ∀ b, b < 256 → ¬ b = 193 → (decide (((128 : Int32) ≤ (nI b))) && (decide (((144 : Int32) ≤ (nI b))) && (decide (((160 : Int32) ≤ (nI b))) && (decide (¬ ((192 : Int32) ≤ (nI b))))))) = true → (8 : Int32) = nI (kd b) := by decide +kernel
theorem ax_X1_kindOf_36 : ∀ b, b < 256 → ¬ b = 193 → (decide (((128 : Int32) ≤ (nI b))) && (decide (((144 : Int32) ≤ (nI b))) && (decide (¬ ((160 : Int32) ≤ (nI b)))))) = true → (10 : Int32) = nI (kd b) := by decide +kernel
theorem ax_X1_kindOf_37 : ∀ b, b < 256 → ¬ b = 193 → ((128 : Int32) ≤ (nI b)) → ¬ ((144 : Int32) ≤ (nI b)) → (11 : Int32) = nI (kd b) := by decide +kernel
theorem ax_X1_kindOf_38 : ∀ b, b < 256 → ¬ b = 193 → ¬ ((128 : Int32) ≤ (nI b)) → (4 : Int32) = nI (kd b) := by decide +kernel
set_option maxHeartbeats 4000000 in
set_option maxRecDepth 100000 in
theorem c_X1_kindOf (l : Launch) (dC : Nat → ClassId) (dI : Nat → Nat → Nat) (tk tw : Nat) (sz : Nat) (b9 : Nat) (hb9 : b9 < 256) (hn9 : ¬ b9 = 193) : Met l yX1_kindOf wsX1_kindOf ({ frames := 0, cells := 0, slots := 0, locals := 0 }) (va_Pc [.int (nI b9)] (p0 sz tk tw)) (va_Qi (fun (r : Int32) (_ : Unit) => r = nI (kd b9)) (fun _ _ => True) (va_A [] sz)) 0 0 (va_A [] sz) := by
  refine Met.ofW (cc := cX1_kindOf) (maxL := 1) (ret := (some .int)) (by decide) rfl ?_
  intro p e s m args below meth c s₁ Bd hml hv
  obtain ⟨rfl, hsz, hZ⟩ := hv
  have hx := Bd.exec
  have hb := Bd.bytes
  have hr := Bd.returns
  have hts := atoms_spec (ws := wsX1_kindOf) Bd.pre
  have hown : s.vm.findClass RX1 = some m.cls := findClass_of_methodNamed Bd.named
  have hlocks := Bd.notSynchronized
  subst hsz
  generalize hAe : va_A [] s.heap.size = A at hZ ⊢
  have hA : ∀ q : Nat, s.heap.size ≤ q → A q := fun q h => by rw [← hAe]; exact Or.inr h
  have hS : va_S A s.heap s.heap [] := va_S.rf
  have hP : va_P (dC, dI) vwCl [] s.heap := fun k q h => by simp at h
  have hl := lv_entry ([.int (nI b9)]) (n := 1) (Nat.le_of_ble_eq_true rfl)
  rw [lg_entry_eq]
  generalize (lg_sl ([.int (nI b9)]) ++ List.replicate (1 - (lg_sl ([.int (nI b9)])).length) Slot.unset).toArray = ls at hl ⊢
  have hl : lv_has ls 1 [(0, .int (nI b9))] := hl
  refine lv_iload_n hx hb dX1_kindOf_0 rfl (lv_at hl 0 rfl) ?_
  refine lv_sipush (v := 128) hx hb dX1_kindOf_1 (by decide) ?_
  refine lv_icmp_ge (tgt := 9) hx hb dX1_kindOf_4 (by decide) (fun c_1 => ?_) (fun c_1 => ?_)
  · skip
    refine lv_iload_n hx hb dX1_kindOf_9 rfl (lv_at hl 0 rfl) ?_
    refine lv_sipush (v := 144) hx hb dX1_kindOf_10 (by decide) ?_
    refine lv_icmp_ge (tgt := 19) hx hb dX1_kindOf_13 (by decide) (fun c_2 => ?_) (fun c_2 => ?_)
    · skip
      refine lv_iload_n hx hb dX1_kindOf_19 rfl (lv_at hl 0 rfl) ?_
      refine lv_sipush (v := 160) hx hb dX1_kindOf_20 (by decide) ?_
      refine lv_icmp_ge (tgt := 29) hx hb dX1_kindOf_23 (by decide) (fun c_3 => ?_) (fun c_3 => ?_)
      · skip
        refine lv_iload_n hx hb dX1_kindOf_29 rfl (lv_at hl 0 rfl) ?_
        refine lv_sipush (v := 192) hx hb dX1_kindOf_30 (by decide) ?_
        refine lv_icmp_ge (tgt := 39) hx hb dX1_kindOf_33 (by decide) (fun c_4 => ?_) (fun c_4 => ?_)
        · skip
          refine lv_iload_n hx hb dX1_kindOf_39 rfl (lv_at hl 0 rfl) ?_
          refine lv_sipush (v := 223) hx hb dX1_kindOf_40 (by decide) ?_
          refine lv_icmp_le (tgt := 48) hx hb dX1_kindOf_43 (by decide) (fun c_5 => ?_) (fun c_5 => ?_)
          · skip
            refine lv_iload_n hx hb dX1_kindOf_48 rfl (lv_at hl 0 rfl) ?_
            by_cases c_6 : (nI b9) = 192
            · skip
              refine lv_tableIn (tgt := 192) hx hb dX1_kindOf_49 (by rw [c_6]; decide) (by rw [c_6]; decide) (by rw [c_6] <;> rfl) (by decide) ?_
              refine lv_iconst (v := 1) hx hb dX1_kindOf_192 (by decide) ?_
              exact W.iret (v := 1) hx hb hr (fun t ht hW => ⟨⟨1, (), rfl, (ax_X1_kindOf_1 b9 hb9 hn9 c_6), trivial⟩, hS.F ht⟩) hS.2.2 dX1_kindOf_193
            by_cases c_7 : (nI b9) = 193
            · skip
              refine lv_tableIn (tgt := 220) hx hb dX1_kindOf_49 (by rw [c_7]; decide) (by rw [c_7]; decide) (by rw [c_7] <;> rfl) (by decide) ?_
              refine lv_bipush (v := 12) hx hb dX1_kindOf_220 (by decide) ?_
              exact W.iret (v := 12) hx hb hr (fun t ht hW => ⟨⟨12, (), rfl, (ax_X1_kindOf_2 b9 hb9 hn9 c_7), trivial⟩, hS.F ht⟩) hS.2.2 dX1_kindOf_222
            by_cases c_8 : (nI b9) = 194
            · skip
              refine lv_tableIn (tgt := 194) hx hb dX1_kindOf_49 (by rw [c_8]; decide) (by rw [c_8]; decide) (by rw [c_8] <;> rfl) (by decide) ?_
              refine lv_iconst (v := 2) hx hb dX1_kindOf_194 (by decide) ?_
              exact W.iret (v := 2) hx hb hr (fun t ht hW => ⟨⟨2, (), rfl, (ax_X1_kindOf_3 b9 hb9 hn9 c_8), trivial⟩, hS.F ht⟩) hS.2.2 dX1_kindOf_195
            by_cases c_9 : (nI b9) = 195
            · skip
              refine lv_tableIn (tgt := 196) hx hb dX1_kindOf_49 (by rw [c_9]; decide) (by rw [c_9]; decide) (by rw [c_9] <;> rfl) (by decide) ?_
              refine lv_iconst (v := 3) hx hb dX1_kindOf_196 (by decide) ?_
              exact W.iret (v := 3) hx hb hr (fun t ht hW => ⟨⟨3, (), rfl, (ax_X1_kindOf_4 b9 hb9 hn9 c_9), trivial⟩, hS.F ht⟩) hS.2.2 dX1_kindOf_197
            by_cases c_10 : (nI b9) = 196
            · skip
              refine lv_tableIn (tgt := 198) hx hb dX1_kindOf_49 (by rw [c_10]; decide) (by rw [c_10]; decide) (by rw [c_10] <;> rfl) (by decide) ?_
              refine lv_bipush (v := 9) hx hb dX1_kindOf_198 (by decide) ?_
              exact W.iret (v := 9) hx hb hr (fun t ht hW => ⟨⟨9, (), rfl, (ax_X1_kindOf_5 b9 hb9 hn9 c_10), trivial⟩, hS.F ht⟩) hS.2.2 dX1_kindOf_200
            by_cases c_11 : (nI b9) = 197
            · skip
              refine lv_tableIn (tgt := 198) hx hb dX1_kindOf_49 (by rw [c_11]; decide) (by rw [c_11]; decide) (by rw [c_11] <;> rfl) (by decide) ?_
              refine lv_bipush (v := 9) hx hb dX1_kindOf_198 (by decide) ?_
              exact W.iret (v := 9) hx hb hr (fun t ht hW => ⟨⟨9, (), rfl, (ax_X1_kindOf_6 b9 hb9 hn9 c_11), trivial⟩, hS.F ht⟩) hS.2.2 dX1_kindOf_200
            by_cases c_12 : (nI b9) = 198
            · skip
              refine lv_tableIn (tgt := 198) hx hb dX1_kindOf_49 (by rw [c_12]; decide) (by rw [c_12]; decide) (by rw [c_12] <;> rfl) (by decide) ?_
              refine lv_bipush (v := 9) hx hb dX1_kindOf_198 (by decide) ?_
              exact W.iret (v := 9) hx hb hr (fun t ht hW => ⟨⟨9, (), rfl, (ax_X1_kindOf_7 b9 hb9 hn9 c_12), trivial⟩, hS.F ht⟩) hS.2.2 dX1_kindOf_200
            by_cases c_13 : (nI b9) = 199
            · skip
              refine lv_tableIn (tgt := 220) hx hb dX1_kindOf_49 (by rw [c_13]; decide) (by rw [c_13]; decide) (by rw [c_13] <;> rfl) (by decide) ?_
              refine lv_bipush (v := 12) hx hb dX1_kindOf_220 (by decide) ?_
              exact W.iret (v := 12) hx hb hr (fun t ht hW => ⟨⟨12, (), rfl, (ax_X1_kindOf_8 b9 hb9 hn9 c_13), trivial⟩, hS.F ht⟩) hS.2.2 dX1_kindOf_222
            by_cases c_14 : (nI b9) = 200
            · skip
              refine lv_tableIn (tgt := 220) hx hb dX1_kindOf_49 (by rw [c_14]; decide) (by rw [c_14]; decide) (by rw [c_14] <;> rfl) (by decide) ?_
              refine lv_bipush (v := 12) hx hb dX1_kindOf_220 (by decide) ?_
              exact W.iret (v := 12) hx hb hr (fun t ht hW => ⟨⟨12, (), rfl, (ax_X1_kindOf_9 b9 hb9 hn9 c_14), trivial⟩, hS.F ht⟩) hS.2.2 dX1_kindOf_222
            by_cases c_15 : (nI b9) = 201
            · skip
              refine lv_tableIn (tgt := 220) hx hb dX1_kindOf_49 (by rw [c_15]; decide) (by rw [c_15]; decide) (by rw [c_15] <;> rfl) (by decide) ?_
              refine lv_bipush (v := 12) hx hb dX1_kindOf_220 (by decide) ?_
              exact W.iret (v := 12) hx hb hr (fun t ht hW => ⟨⟨12, (), rfl, (ax_X1_kindOf_10 b9 hb9 hn9 c_15), trivial⟩, hS.F ht⟩) hS.2.2 dX1_kindOf_222
            by_cases c_16 : (nI b9) = 202
            · skip
              refine lv_tableIn (tgt := 201) hx hb dX1_kindOf_49 (by rw [c_16]; decide) (by rw [c_16]; decide) (by rw [c_16] <;> rfl) (by decide) ?_
              refine lv_bipush (v := 6) hx hb dX1_kindOf_201 (by decide) ?_
              exact W.iret (v := 6) hx hb hr (fun t ht hW => ⟨⟨6, (), rfl, (ax_X1_kindOf_11 b9 hb9 hn9 c_16), trivial⟩, hS.F ht⟩) hS.2.2 dX1_kindOf_203
            by_cases c_17 : (nI b9) = 203
            · skip
              refine lv_tableIn (tgt := 204) hx hb dX1_kindOf_49 (by rw [c_17]; decide) (by rw [c_17]; decide) (by rw [c_17] <;> rfl) (by decide) ?_
              refine lv_bipush (v := 7) hx hb dX1_kindOf_204 (by decide) ?_
              exact W.iret (v := 7) hx hb hr (fun t ht hW => ⟨⟨7, (), rfl, (ax_X1_kindOf_12 b9 hb9 hn9 c_17), trivial⟩, hS.F ht⟩) hS.2.2 dX1_kindOf_206
            by_cases c_18 : (nI b9) = 204
            · skip
              refine lv_tableIn (tgt := 207) hx hb dX1_kindOf_49 (by rw [c_18]; decide) (by rw [c_18]; decide) (by rw [c_18] <;> rfl) (by decide) ?_
              refine lv_iconst (v := 4) hx hb dX1_kindOf_207 (by decide) ?_
              exact W.iret (v := 4) hx hb hr (fun t ht hW => ⟨⟨4, (), rfl, (ax_X1_kindOf_13 b9 hb9 hn9 c_18), trivial⟩, hS.F ht⟩) hS.2.2 dX1_kindOf_208
            by_cases c_19 : (nI b9) = 205
            · skip
              refine lv_tableIn (tgt := 207) hx hb dX1_kindOf_49 (by rw [c_19]; decide) (by rw [c_19]; decide) (by rw [c_19] <;> rfl) (by decide) ?_
              refine lv_iconst (v := 4) hx hb dX1_kindOf_207 (by decide) ?_
              exact W.iret (v := 4) hx hb hr (fun t ht hW => ⟨⟨4, (), rfl, (ax_X1_kindOf_14 b9 hb9 hn9 c_19), trivial⟩, hS.F ht⟩) hS.2.2 dX1_kindOf_208
            by_cases c_20 : (nI b9) = 206
            · skip
              refine lv_tableIn (tgt := 207) hx hb dX1_kindOf_49 (by rw [c_20]; decide) (by rw [c_20]; decide) (by rw [c_20] <;> rfl) (by decide) ?_
              refine lv_iconst (v := 4) hx hb dX1_kindOf_207 (by decide) ?_
              exact W.iret (v := 4) hx hb hr (fun t ht hW => ⟨⟨4, (), rfl, (ax_X1_kindOf_15 b9 hb9 hn9 c_20), trivial⟩, hS.F ht⟩) hS.2.2 dX1_kindOf_208
            by_cases c_21 : (nI b9) = 207
            · skip
              refine lv_tableIn (tgt := 207) hx hb dX1_kindOf_49 (by rw [c_21]; decide) (by rw [c_21]; decide) (by rw [c_21] <;> rfl) (by decide) ?_
              refine lv_iconst (v := 4) hx hb dX1_kindOf_207 (by decide) ?_
              exact W.iret (v := 4) hx hb hr (fun t ht hW => ⟨⟨4, (), rfl, (ax_X1_kindOf_16 b9 hb9 hn9 c_21), trivial⟩, hS.F ht⟩) hS.2.2 dX1_kindOf_208
            by_cases c_22 : (nI b9) = 208
            · skip
              refine lv_tableIn (tgt := 209) hx hb dX1_kindOf_49 (by rw [c_22]; decide) (by rw [c_22]; decide) (by rw [c_22] <;> rfl) (by decide) ?_
              refine lv_iconst (v := 5) hx hb dX1_kindOf_209 (by decide) ?_
              exact W.iret (v := 5) hx hb hr (fun t ht hW => ⟨⟨5, (), rfl, (ax_X1_kindOf_17 b9 hb9 hn9 c_22), trivial⟩, hS.F ht⟩) hS.2.2 dX1_kindOf_210
            by_cases c_23 : (nI b9) = 209
            · skip
              refine lv_tableIn (tgt := 209) hx hb dX1_kindOf_49 (by rw [c_23]; decide) (by rw [c_23]; decide) (by rw [c_23] <;> rfl) (by decide) ?_
              refine lv_iconst (v := 5) hx hb dX1_kindOf_209 (by decide) ?_
              exact W.iret (v := 5) hx hb hr (fun t ht hW => ⟨⟨5, (), rfl, (ax_X1_kindOf_18 b9 hb9 hn9 c_23), trivial⟩, hS.F ht⟩) hS.2.2 dX1_kindOf_210
            by_cases c_24 : (nI b9) = 210
            · skip
              refine lv_tableIn (tgt := 209) hx hb dX1_kindOf_49 (by rw [c_24]; decide) (by rw [c_24]; decide) (by rw [c_24] <;> rfl) (by decide) ?_
              refine lv_iconst (v := 5) hx hb dX1_kindOf_209 (by decide) ?_
              exact W.iret (v := 5) hx hb hr (fun t ht hW => ⟨⟨5, (), rfl, (ax_X1_kindOf_19 b9 hb9 hn9 c_24), trivial⟩, hS.F ht⟩) hS.2.2 dX1_kindOf_210
            by_cases c_25 : (nI b9) = 211
            · skip
              refine lv_tableIn (tgt := 209) hx hb dX1_kindOf_49 (by rw [c_25]; decide) (by rw [c_25]; decide) (by rw [c_25] <;> rfl) (by decide) ?_
              refine lv_iconst (v := 5) hx hb dX1_kindOf_209 (by decide) ?_
              exact W.iret (v := 5) hx hb hr (fun t ht hW => ⟨⟨5, (), rfl, (ax_X1_kindOf_20 b9 hb9 hn9 c_25), trivial⟩, hS.F ht⟩) hS.2.2 dX1_kindOf_210
            by_cases c_26 : (nI b9) = 212
            · skip
              refine lv_tableIn (tgt := 220) hx hb dX1_kindOf_49 (by rw [c_26]; decide) (by rw [c_26]; decide) (by rw [c_26] <;> rfl) (by decide) ?_
              refine lv_bipush (v := 12) hx hb dX1_kindOf_220 (by decide) ?_
              exact W.iret (v := 12) hx hb hr (fun t ht hW => ⟨⟨12, (), rfl, (ax_X1_kindOf_21 b9 hb9 hn9 c_26), trivial⟩, hS.F ht⟩) hS.2.2 dX1_kindOf_222
            by_cases c_27 : (nI b9) = 213
            · skip
              refine lv_tableIn (tgt := 220) hx hb dX1_kindOf_49 (by rw [c_27]; decide) (by rw [c_27]; decide) (by rw [c_27] <;> rfl) (by decide) ?_
              refine lv_bipush (v := 12) hx hb dX1_kindOf_220 (by decide) ?_
              exact W.iret (v := 12) hx hb hr (fun t ht hW => ⟨⟨12, (), rfl, (ax_X1_kindOf_22 b9 hb9 hn9 c_27), trivial⟩, hS.F ht⟩) hS.2.2 dX1_kindOf_222
            by_cases c_28 : (nI b9) = 214
            · skip
              refine lv_tableIn (tgt := 220) hx hb dX1_kindOf_49 (by rw [c_28]; decide) (by rw [c_28]; decide) (by rw [c_28] <;> rfl) (by decide) ?_
              refine lv_bipush (v := 12) hx hb dX1_kindOf_220 (by decide) ?_
              exact W.iret (v := 12) hx hb hr (fun t ht hW => ⟨⟨12, (), rfl, (ax_X1_kindOf_23 b9 hb9 hn9 c_28), trivial⟩, hS.F ht⟩) hS.2.2 dX1_kindOf_222
            by_cases c_29 : (nI b9) = 215
            · skip
              refine lv_tableIn (tgt := 220) hx hb dX1_kindOf_49 (by rw [c_29]; decide) (by rw [c_29]; decide) (by rw [c_29] <;> rfl) (by decide) ?_
              refine lv_bipush (v := 12) hx hb dX1_kindOf_220 (by decide) ?_
              exact W.iret (v := 12) hx hb hr (fun t ht hW => ⟨⟨12, (), rfl, (ax_X1_kindOf_24 b9 hb9 hn9 c_29), trivial⟩, hS.F ht⟩) hS.2.2 dX1_kindOf_222
            by_cases c_30 : (nI b9) = 216
            · skip
              refine lv_tableIn (tgt := 220) hx hb dX1_kindOf_49 (by rw [c_30]; decide) (by rw [c_30]; decide) (by rw [c_30] <;> rfl) (by decide) ?_
              refine lv_bipush (v := 12) hx hb dX1_kindOf_220 (by decide) ?_
              exact W.iret (v := 12) hx hb hr (fun t ht hW => ⟨⟨12, (), rfl, (ax_X1_kindOf_25 b9 hb9 hn9 c_30), trivial⟩, hS.F ht⟩) hS.2.2 dX1_kindOf_222
            by_cases c_31 : (nI b9) = 217
            · skip
              refine lv_tableIn (tgt := 211) hx hb dX1_kindOf_49 (by rw [c_31]; decide) (by rw [c_31]; decide) (by rw [c_31] <;> rfl) (by decide) ?_
              refine lv_bipush (v := 8) hx hb dX1_kindOf_211 (by decide) ?_
              exact W.iret (v := 8) hx hb hr (fun t ht hW => ⟨⟨8, (), rfl, (ax_X1_kindOf_26 b9 hb9 hn9 c_31), trivial⟩, hS.F ht⟩) hS.2.2 dX1_kindOf_213
            by_cases c_32 : (nI b9) = 218
            · skip
              refine lv_tableIn (tgt := 211) hx hb dX1_kindOf_49 (by rw [c_32]; decide) (by rw [c_32]; decide) (by rw [c_32] <;> rfl) (by decide) ?_
              refine lv_bipush (v := 8) hx hb dX1_kindOf_211 (by decide) ?_
              exact W.iret (v := 8) hx hb hr (fun t ht hW => ⟨⟨8, (), rfl, (ax_X1_kindOf_27 b9 hb9 hn9 c_32), trivial⟩, hS.F ht⟩) hS.2.2 dX1_kindOf_213
            by_cases c_33 : (nI b9) = 219
            · skip
              refine lv_tableIn (tgt := 211) hx hb dX1_kindOf_49 (by rw [c_33]; decide) (by rw [c_33]; decide) (by rw [c_33] <;> rfl) (by decide) ?_
              refine lv_bipush (v := 8) hx hb dX1_kindOf_211 (by decide) ?_
              exact W.iret (v := 8) hx hb hr (fun t ht hW => ⟨⟨8, (), rfl, (ax_X1_kindOf_28 b9 hb9 hn9 c_33), trivial⟩, hS.F ht⟩) hS.2.2 dX1_kindOf_213
            by_cases c_34 : (nI b9) = 220
            · skip
              refine lv_tableIn (tgt := 214) hx hb dX1_kindOf_49 (by rw [c_34]; decide) (by rw [c_34]; decide) (by rw [c_34] <;> rfl) (by decide) ?_
              refine lv_bipush (v := 10) hx hb dX1_kindOf_214 (by decide) ?_
              exact W.iret (v := 10) hx hb hr (fun t ht hW => ⟨⟨10, (), rfl, (ax_X1_kindOf_29 b9 hb9 hn9 c_34), trivial⟩, hS.F ht⟩) hS.2.2 dX1_kindOf_216
            by_cases c_35 : (nI b9) = 221
            · skip
              refine lv_tableIn (tgt := 214) hx hb dX1_kindOf_49 (by rw [c_35]; decide) (by rw [c_35]; decide) (by rw [c_35] <;> rfl) (by decide) ?_
              refine lv_bipush (v := 10) hx hb dX1_kindOf_214 (by decide) ?_
              exact W.iret (v := 10) hx hb hr (fun t ht hW => ⟨⟨10, (), rfl, (ax_X1_kindOf_30 b9 hb9 hn9 c_35), trivial⟩, hS.F ht⟩) hS.2.2 dX1_kindOf_216
            by_cases c_36 : (nI b9) = 222
            · skip
              refine lv_tableIn (tgt := 217) hx hb dX1_kindOf_49 (by rw [c_36]; decide) (by rw [c_36]; decide) (by rw [c_36] <;> rfl) (by decide) ?_
              refine lv_bipush (v := 11) hx hb dX1_kindOf_217 (by decide) ?_
              exact W.iret (v := 11) hx hb hr (fun t ht hW => ⟨⟨11, (), rfl, (ax_X1_kindOf_31 b9 hb9 hn9 c_36), trivial⟩, hS.F ht⟩) hS.2.2 dX1_kindOf_219
            by_cases c_37 : (nI b9) = 223
            · skip
              refine lv_tableIn (tgt := 217) hx hb dX1_kindOf_49 (by rw [c_37]; decide) (by rw [c_37]; decide) (by rw [c_37] <;> rfl) (by decide) ?_
              refine lv_bipush (v := 11) hx hb dX1_kindOf_217 (by decide) ?_
              exact W.iret (v := 11) hx hb hr (fun t ht hW => ⟨⟨11, (), rfl, (ax_X1_kindOf_32 b9 hb9 hn9 c_37), trivial⟩, hS.F ht⟩) hS.2.2 dX1_kindOf_219
            refine lv_tableOut (tgt := 220) hx hb dX1_kindOf_49 (by have := lv_neT (a := 192) c_6 (by decide); have := lv_neT (a := 193) c_7 (by decide); have := lv_neT (a := 194) c_8 (by decide); have := lv_neT (a := 195) c_9 (by decide); have := lv_neT (a := 196) c_10 (by decide); have := lv_neT (a := 197) c_11 (by decide); have := lv_neT (a := 198) c_12 (by decide); have := lv_neT (a := 199) c_13 (by decide); have := lv_neT (a := 200) c_14 (by decide); have := lv_neT (a := 201) c_15 (by decide); have := lv_neT (a := 202) c_16 (by decide); have := lv_neT (a := 203) c_17 (by decide); have := lv_neT (a := 204) c_18 (by decide); have := lv_neT (a := 205) c_19 (by decide); have := lv_neT (a := 206) c_20 (by decide); have := lv_neT (a := 207) c_21 (by decide); have := lv_neT (a := 208) c_22 (by decide); have := lv_neT (a := 209) c_23 (by decide); have := lv_neT (a := 210) c_24 (by decide); have := lv_neT (a := 211) c_25 (by decide); have := lv_neT (a := 212) c_26 (by decide); have := lv_neT (a := 213) c_27 (by decide); have := lv_neT (a := 214) c_28 (by decide); have := lv_neT (a := 215) c_29 (by decide); have := lv_neT (a := 216) c_30 (by decide); have := lv_neT (a := 217) c_31 (by decide); have := lv_neT (a := 218) c_32 (by decide); have := lv_neT (a := 219) c_33 (by decide); have := lv_neT (a := 220) c_34 (by decide); have := lv_neT (a := 221) c_35 (by decide); have := lv_neT (a := 222) c_36 (by decide); have := lv_neT (a := 223) c_37 (by decide); omega) (by decide) ?_
            refine lv_bipush (v := 12) hx hb dX1_kindOf_220 (by decide) ?_
            exact W.iret (v := 12) hx hb hr (fun t ht hW => ⟨⟨12, (), rfl, (ax_X1_kindOf_33 b9 hb9 hn9 (andB c_1 (andB c_2 (andB c_3 (andB c_4 (decide_eq_true c_5))))) (by simp [c_6, c_7, c_8, c_9, c_10, c_11, c_12, c_13, c_14, c_15, c_16, c_17, c_18, c_19, c_20, c_21, c_22, c_23, c_24, c_25, c_26, c_27, c_28, c_29, c_30, c_31, c_32, c_33, c_34, c_35, c_36, c_37])), trivial⟩, hS.F ht⟩) hS.2.2 dX1_kindOf_222
          · skip
            refine lv_iconst (v := 5) hx hb dX1_kindOf_46 (by decide) ?_
            exact W.iret (v := 5) hx hb hr (fun t ht hW => ⟨⟨5, (), rfl, (ax_X1_kindOf_34 b9 hb9 hn9 (andB c_1 (andB c_2 (andB c_3 (andB c_4 (decide_eq_true c_5)))))), trivial⟩, hS.F ht⟩) hS.2.2 dX1_kindOf_47
        · skip
          refine lv_bipush (v := 8) hx hb dX1_kindOf_36 (by decide) ?_
          exact W.iret (v := 8) hx hb hr (fun t ht hW => ⟨⟨8, (), rfl, (ax_X1_kindOf_35 b9 hb9 hn9 (andB c_1 (andB c_2 (andB c_3 (decide_eq_true c_4))))), trivial⟩, hS.F ht⟩) hS.2.2 dX1_kindOf_38
      · skip
        refine lv_bipush (v := 10) hx hb dX1_kindOf_26 (by decide) ?_
        exact W.iret (v := 10) hx hb hr (fun t ht hW => ⟨⟨10, (), rfl, (ax_X1_kindOf_36 b9 hb9 hn9 (andB c_1 (andB c_2 (decide_eq_true c_3)))), trivial⟩, hS.F ht⟩) hS.2.2 dX1_kindOf_28
    · skip
      refine lv_bipush (v := 11) hx hb dX1_kindOf_16 (by decide) ?_
      exact W.iret (v := 11) hx hb hr (fun t ht hW => ⟨⟨11, (), rfl, (ax_X1_kindOf_37 b9 hb9 hn9 c_1 c_2), trivial⟩, hS.F ht⟩) hS.2.2 dX1_kindOf_18
  · skip
    refine lv_iconst (v := 4) hx hb dX1_kindOf_7 (by decide) ?_
    exact W.iret (v := 4) hx hb hr (fun t ht hW => ⟨⟨4, (), rfl, (ax_X1_kindOf_38 b9 hb9 hn9 c_1), trivial⟩, hS.F ht⟩) hS.2.2 dX1_kindOf_8
theorem ax_X1_ownNumber_1 : ∀ b, b < 256 → (decide (((128 : Int32) ≤ (nI b))) && (decide (((144 : Int32) ≤ (nI b))) && (decide (((160 : Int32) ≤ (nI b))) && (decide (((192 : Int32) ≤ (nI b))) && (decide (((nI b) ≤ (223 : Int32))) && (decide (((nI b) ≤ (211 : Int32))))))))) = true → (0 : Int64) = ow b := by decide +kernel
theorem ax_X1_ownNumber_2 : ∀ b, b < 256 → (decide (((128 : Int32) ≤ (nI b))) && (decide (((144 : Int32) ≤ (nI b))) && (decide (((160 : Int32) ≤ (nI b))) && (decide (((192 : Int32) ≤ (nI b))) && (decide (((nI b) ≤ (223 : Int32))) && (decide (¬ ((nI b) ≤ (211 : Int32))) && (decide (((217 : Int32) ≤ (nI b)))))))))) = true → (0 : Int64) = ow b := by decide +kernel
theorem ax_X1_ownNumber_3 : ∀ b, b < 256 → (decide (((128 : Int32) ≤ (nI b))) && (decide (((144 : Int32) ≤ (nI b))) && (decide (((160 : Int32) ≤ (nI b))) && (decide (((192 : Int32) ≤ (nI b))) && (decide (((nI b) ≤ (223 : Int32))) && (decide (¬ ((nI b) ≤ (211 : Int32))) && (decide (¬ ((217 : Int32) ≤ (nI b)))))))))) = true → (1 <<< (((nI b) - 212).toInt64 &&& 63) : Int64) = ow b := by decide +kernel
theorem ax_X1_ownNumber_4 : ∀ b, b < 256 → (decide (((128 : Int32) ≤ (nI b))) && (decide (((144 : Int32) ≤ (nI b))) && (decide (((160 : Int32) ≤ (nI b))) && (decide (((192 : Int32) ≤ (nI b))) && (decide (¬ ((nI b) ≤ (223 : Int32)))))))) = true → (((nI b) - 256).toInt64 : Int64) = ow b := by decide +kernel
theorem ax_X1_ownNumber_5 : ∀ b, b < 256 → (decide (((128 : Int32) ≤ (nI b))) && (decide (((144 : Int32) ≤ (nI b))) && (decide (((160 : Int32) ≤ (nI b))) && (decide (¬ ((192 : Int32) ≤ (nI b))))))) = true → (((nI b) - 160).toInt64 : Int64) = ow b := by decide +kernel
theorem ax_X1_ownNumber_6 : ∀ b, b < 256 → (decide (((128 : Int32) ≤ (nI b))) && (decide (((144 : Int32) ≤ (nI b))) && (decide (¬ ((160 : Int32) ≤ (nI b)))))) = true → (((nI b) - 144).toInt64 : Int64) = ow b := by decide +kernel
theorem ax_X1_ownNumber_7 : ∀ b, b < 256 → ((128 : Int32) ≤ (nI b)) → ¬ ((144 : Int32) ≤ (nI b)) → (((nI b) - 128).toInt64 : Int64) = ow b := by decide +kernel
theorem ax_X1_ownNumber_8 : ∀ b, b < 256 → ¬ ((128 : Int32) ≤ (nI b)) → ((nI b).toInt64 : Int64) = ow b := by decide +kernel
set_option maxHeartbeats 4000000 in
set_option maxRecDepth 100000 in
theorem c_X1_ownNumber (l : Launch) (dC : Nat → ClassId) (dI : Nat → Nat → Nat) (tk tw : Nat) (sz : Nat) (b9 : Nat) (hb9 : b9 < 256) : Met l yX1_ownNumber wsX1_ownNumber ({ frames := 0, cells := 0, slots := 0, locals := 0 }) (va_Pc [.int (nI b9)] (p0 sz tk tw)) (va_Ql (fun (r : Int64) (_ : Unit) => r = ow b9) (fun _ _ => True) (va_A [] sz)) 0 0 (va_A [] sz) := by
  refine Met.ofW (cc := cX1_ownNumber) (maxL := 1) (ret := (some .long)) (by decide) rfl ?_
  intro p e s m args below meth c s₁ Bd hml hv
  obtain ⟨rfl, hsz, hZ⟩ := hv
  have hx := Bd.exec
  have hb := Bd.bytes
  have hr := Bd.returns
  have hts := atoms_spec (ws := wsX1_ownNumber) Bd.pre
  have hown : s.vm.findClass RX1 = some m.cls := findClass_of_methodNamed Bd.named
  have hlocks := Bd.notSynchronized
  subst hsz
  generalize hAe : va_A [] s.heap.size = A at hZ ⊢
  have hA : ∀ q : Nat, s.heap.size ≤ q → A q := fun q h => by rw [← hAe]; exact Or.inr h
  have hS : va_S A s.heap s.heap [] := va_S.rf
  have hP : va_P (dC, dI) vwCl [] s.heap := fun k q h => by simp at h
  have hl := lv_entry ([.int (nI b9)]) (n := 1) (Nat.le_of_ble_eq_true rfl)
  rw [lg_entry_eq]
  generalize (lg_sl ([.int (nI b9)]) ++ List.replicate (1 - (lg_sl ([.int (nI b9)])).length) Slot.unset).toArray = ls at hl ⊢
  have hl : lv_has ls 1 [(0, .int (nI b9))] := hl
  refine lv_iload_n hx hb dX1_ownNumber_0 rfl (lv_at hl 0 rfl) ?_
  refine lv_sipush (v := 128) hx hb dX1_ownNumber_1 (by decide) ?_
  refine lv_icmp_ge (tgt := 10) hx hb dX1_ownNumber_4 (by decide) (fun c_1 => ?_) (fun c_1 => ?_)
  · skip
    refine lv_iload_n hx hb dX1_ownNumber_10 rfl (lv_at hl 0 rfl) ?_
    refine lv_sipush (v := 144) hx hb dX1_ownNumber_11 (by decide) ?_
    refine lv_icmp_ge (tgt := 24) hx hb dX1_ownNumber_14 (by decide) (fun c_2 => ?_) (fun c_2 => ?_)
    · skip
      refine lv_iload_n hx hb dX1_ownNumber_24 rfl (lv_at hl 0 rfl) ?_
      refine lv_sipush (v := 160) hx hb dX1_ownNumber_25 (by decide) ?_
      refine lv_icmp_ge (tgt := 38) hx hb dX1_ownNumber_28 (by decide) (fun c_3 => ?_) (fun c_3 => ?_)
      · skip
        refine lv_iload_n hx hb dX1_ownNumber_38 rfl (lv_at hl 0 rfl) ?_
        refine lv_sipush (v := 192) hx hb dX1_ownNumber_39 (by decide) ?_
        refine lv_icmp_ge (tgt := 52) hx hb dX1_ownNumber_42 (by decide) (fun c_4 => ?_) (fun c_4 => ?_)
        · skip
          refine lv_iload_n hx hb dX1_ownNumber_52 rfl (lv_at hl 0 rfl) ?_
          refine lv_sipush (v := 223) hx hb dX1_ownNumber_53 (by decide) ?_
          refine lv_icmp_le (tgt := 68) hx hb dX1_ownNumber_56 (by decide) (fun c_5 => ?_) (fun c_5 => ?_)
          · skip
            refine lv_iload_n hx hb dX1_ownNumber_68 rfl (lv_at hl 0 rfl) ?_
            refine lv_sipush (v := 211) hx hb dX1_ownNumber_69 (by decide) ?_
            refine lv_icmp_le (tgt := 92) hx hb dX1_ownNumber_72 (by decide) (fun c_6 => ?_) (fun c_6 => ?_)
            · skip
              refine lv_lconst (v := 0) hx hb dX1_ownNumber_92 (by decide) ?_
              exact W.lret (v := 0) hx hb hr (fun t ht hW => ⟨⟨0, (), rfl, (ax_X1_ownNumber_1 b9 hb9 (andB c_1 (andB c_2 (andB c_3 (andB c_4 (andB c_5 (decide_eq_true c_6))))))), trivial⟩, hS.F ht⟩) hS.2.2 dX1_ownNumber_93
            · skip
              refine lv_iload_n hx hb dX1_ownNumber_75 rfl (lv_at hl 0 rfl) ?_
              refine lv_sipush (v := 217) hx hb dX1_ownNumber_76 (by decide) ?_
              refine lv_icmp_ge (tgt := 92) hx hb dX1_ownNumber_79 (by decide) (fun c_7 => ?_) (fun c_7 => ?_)
              · skip
                refine lv_lconst (v := 0) hx hb dX1_ownNumber_92 (by decide) ?_
                exact W.lret (v := 0) hx hb hr (fun t ht hW => ⟨⟨0, (), rfl, (ax_X1_ownNumber_2 b9 hb9 (andB c_1 (andB c_2 (andB c_3 (andB c_4 (andB c_5 (andB c_6 (decide_eq_true c_7)))))))), trivial⟩, hS.F ht⟩) hS.2.2 dX1_ownNumber_93
              · skip
                refine lv_lconst (v := 1) hx hb dX1_ownNumber_82 (by decide) ?_
                refine lv_iload_n hx hb dX1_ownNumber_83 rfl (lv_at hl 0 rfl) ?_
                refine lv_sipush (v := 212) hx hb dX1_ownNumber_84 (by decide) ?_
                refine lv_isub hx hb dX1_ownNumber_87 ?_
                refine lv_lshl hx hb dX1_ownNumber_88 rfl ?_
                refine lv_goto (tgt := 93) hx hb dX1_ownNumber_89 (by decide) ?_
                exact W.lret (v := 1 <<< (((nI b9) - 212).toInt64 &&& 63)) hx hb hr (fun t ht hW => ⟨⟨1 <<< (((nI b9) - 212).toInt64 &&& 63), (), rfl, (ax_X1_ownNumber_3 b9 hb9 (andB c_1 (andB c_2 (andB c_3 (andB c_4 (andB c_5 (andB c_6 (decide_eq_true c_7)))))))), trivial⟩, hS.F ht⟩) hS.2.2 dX1_ownNumber_93
          · skip
            refine lv_iload_n hx hb dX1_ownNumber_59 rfl (lv_at hl 0 rfl) ?_
            refine lv_sipush (v := 256) hx hb dX1_ownNumber_60 (by decide) ?_
            refine lv_isub hx hb dX1_ownNumber_63 ?_
            refine lv_i2l hx hb dX1_ownNumber_64 rfl ?_
            refine lv_goto (tgt := 93) hx hb dX1_ownNumber_65 (by decide) ?_
            exact W.lret (v := ((nI b9) - 256).toInt64) hx hb hr (fun t ht hW => ⟨⟨((nI b9) - 256).toInt64, (), rfl, (ax_X1_ownNumber_4 b9 hb9 (andB c_1 (andB c_2 (andB c_3 (andB c_4 (decide_eq_true c_5)))))), trivial⟩, hS.F ht⟩) hS.2.2 dX1_ownNumber_93
        · skip
          refine lv_iload_n hx hb dX1_ownNumber_45 rfl (lv_at hl 0 rfl) ?_
          refine lv_sipush (v := 160) hx hb dX1_ownNumber_46 (by decide) ?_
          refine lv_isub hx hb dX1_ownNumber_49 ?_
          refine lv_i2l hx hb dX1_ownNumber_50 rfl ?_
          exact W.lret (v := ((nI b9) - 160).toInt64) hx hb hr (fun t ht hW => ⟨⟨((nI b9) - 160).toInt64, (), rfl, (ax_X1_ownNumber_5 b9 hb9 (andB c_1 (andB c_2 (andB c_3 (decide_eq_true c_4))))), trivial⟩, hS.F ht⟩) hS.2.2 dX1_ownNumber_51
      · skip
        refine lv_iload_n hx hb dX1_ownNumber_31 rfl (lv_at hl 0 rfl) ?_
        refine lv_sipush (v := 144) hx hb dX1_ownNumber_32 (by decide) ?_
        refine lv_isub hx hb dX1_ownNumber_35 ?_
        refine lv_i2l hx hb dX1_ownNumber_36 rfl ?_
        exact W.lret (v := ((nI b9) - 144).toInt64) hx hb hr (fun t ht hW => ⟨⟨((nI b9) - 144).toInt64, (), rfl, (ax_X1_ownNumber_6 b9 hb9 (andB c_1 (andB c_2 (decide_eq_true c_3)))), trivial⟩, hS.F ht⟩) hS.2.2 dX1_ownNumber_37
    · skip
      refine lv_iload_n hx hb dX1_ownNumber_17 rfl (lv_at hl 0 rfl) ?_
      refine lv_sipush (v := 128) hx hb dX1_ownNumber_18 (by decide) ?_
      refine lv_isub hx hb dX1_ownNumber_21 ?_
      refine lv_i2l hx hb dX1_ownNumber_22 rfl ?_
      exact W.lret (v := ((nI b9) - 128).toInt64) hx hb hr (fun t ht hW => ⟨⟨((nI b9) - 128).toInt64, (), rfl, (ax_X1_ownNumber_7 b9 hb9 c_1 c_2), trivial⟩, hS.F ht⟩) hS.2.2 dX1_ownNumber_23
  · skip
    refine lv_iload_n hx hb dX1_ownNumber_7 rfl (lv_at hl 0 rfl) ?_
    refine lv_i2l hx hb dX1_ownNumber_8 rfl ?_
    exact W.lret (v := (nI b9).toInt64) hx hb hr (fun t ht hW => ⟨⟨(nI b9).toInt64, (), rfl, (ax_X1_ownNumber_8 b9 hb9 c_1), trivial⟩, hS.F ht⟩) hS.2.2 dX1_ownNumber_9
end
section
set_option maxHeartbeats 4000000 in
set_option maxRecDepth 100000 in
theorem c_X1_numberAt (l : Launch) (dC : Nat → ClassId) (dI : Nat → Nat → Nat) (tk tw : Nat) (h a b : Nat) (cI cJ : ClassId) (sz : Nat) (f : Nat → Int32) (g : Nat → Int64) (zt : Int32) (zs : Int32) (zc : Int32) (zso : Int32) (znu : Int64) (zty : Int32) (zhd : Int32) (zpa : Int64) (zch : Int64) (zlk : Int32) (zlo : Int32) (zhi : Int32) (zlp : Int32) (zll : Int32) (zlv : Int32) (B : Nat → Nat) (a9 k9 : Nat) (h9 : a9 + k9 ≤ 4096) (hf9 : ∀ j, j < a9 + k9 → f j = nI (B j)) : Met l yX1_numberAt wsX1_numberAt ({ frames := 0, cells := 0, slots := 0, locals := 0 }) (va_Pc [.ref h, .int (nI a9), .int (nI k9)] (pr dC dI (t1 cI cJ) (w1 h a b cI cJ f g zt zs zc zso znu zty zhd zpa zch zlk zlo zhi zlp zll zlv) sz tk tw)) (va_Ql (fun (r : Int64) (_ : Unit) => r = rd B a9 k9) (fun (_ : Unit) => po dC dI (t1 cI cJ) (va_A (w1 h a b cI cJ f g zt zs zc zso znu zty zhd zpa zch zlk zlo zhi zlp zll zlv) sz) (w1 h a b cI cJ f g zt zs zc zso znu zty zhd zpa zch zlk zlo zhi zlp zll zlv)) (va_A (w1 h a b cI cJ f g zt zs zc zso znu zty zhd zpa zch zlk zlo zhi zlp zll zlv) sz)) 0 0 (va_A (w1 h a b cI cJ f g zt zs zc zso znu zty zhd zpa zch zlk zlo zhi zlp zll zlv) sz) := by
  refine Met.ofW (cc := cX1_numberAt) (maxL := 6) (ret := (some .long)) (by decide) rfl ?_
  intro p e s m args below meth c s₁ Bd hml hv
  obtain ⟨rfl, hsz, hP, hK, hD0, hZ⟩ := hv
  have hx := Bd.exec
  have hb := Bd.bytes
  have hr := Bd.returns
  have hts := atoms_spec (ws := wsX1_numberAt) Bd.pre
  have hown : s.vm.findClass RX1 = some m.cls := findClass_of_methodNamed Bd.named
  have hlocks := Bd.notSynchronized
  subst hsz
  have hD := hD0.self (sz := s.heap.size)
  generalize hAe : va_A (w1 h a b cI cJ f g zt zs zc zso znu zty zhd zpa zch zlk zlo zhi zlp zll zlv) s.heap.size = A at hD hZ ⊢
  have hA : ∀ q : Nat, s.heap.size ≤ q → A q := fun q h => by rw [← hAe]; exact Or.inr h
  have hS : va_S A s.heap s.heap [] := va_S.rf
  have hP : va_P (dC, dI) vwCl (w1 h a b cI cJ f g zt zs zc zso znu zty zhd zpa zch zlk zlo zhi zlp zll zlv) s.heap := hP
  have hin0 : ∀ w ∈ wsX10, w ∈ wsX1_numberAt := by decide +kernel
  have fl7 := hts (.fieldLink RX1 7 "MessageReaderModel" "bytes" "[I") (by decide +kernel)
  have hl := lv_entry ([.ref h, .int (nI a9), .int (nI k9)]) (n := 6) (Nat.le_of_ble_eq_true rfl)
  rw [lg_entry_eq]
  generalize (lg_sl ([.ref h, .int (nI a9), .int (nI k9)]) ++ List.replicate (6 - (lg_sl ([.ref h, .int (nI a9), .int (nI k9)])).length) Slot.unset).toArray = ls at hl ⊢
  have hl : lv_has ls 6 [(0, .ref h), (1, .int (nI a9)), (2, .int (nI k9))] := hl
  refine lv_lconst (v := 0) hx hb dX1_numberAt_0 (by decide) ?_
  refine lv_lstore_n (lv' := [(3, .long 0), (0, .ref h), (1, .int (nI a9)), (2, .int (nI k9))]) hx hb dX1_numberAt_1 rfl hl (by decide) rfl (fun ls hl => ?_)
  refine lv_iconst (v := 0) hx hb dX1_numberAt_2 (by decide) ?_
  refine lv_istore (lv' := [(5, .int 0), (3, .long 0), (0, .ref h), (1, .int (nI a9)), (2, .int (nI k9))]) hx hb dX1_numberAt_3 hl (by decide) rfl (fun ls hl => ?_)
  have loop5 : ∀ (fz : Nat) (i : Nat), i ≤ k9 → k9 - i < fz → ∀ (H : Heap) (locs : List Loc), va_P (dC, dI) vwCl (w1 h a b cI cJ f g zt zs zc zso znu zty zhd zpa zch zlk zlo zhi zlp zll zlv) H → va_D A (w1 h a b cI cJ f g zt zs zc zso znu zty zhd zpa zch zlk zlo zhi zlp zll zlv) → va_S A s.heap H locs → ∀ ls : Array Slot, lv_has ls 6 [(0, .ref h), (1, .int (nI a9)), (2, .int (nI k9)), (3, .long (rd B a9 i)), (5, .int (nI i))] → W p l e (headSpec wsX1_numberAt ({ frames := 0, cells := 0, slots := 0, locals := 0 })).room s m ([.ref h, .int (nI a9), .int (nI k9)]).toArray below meth c H locs 0 0 (MQ below (va_Ql (fun (r : Int64) (_ : Unit) => r = rd B a9 k9) (fun (_ : Unit) => po dC dI (t1 cI cJ) A (w1 h a b cI cJ f g zt zs zc zso znu zty zhd zpa zch zlk zlo zhi zlp zll zlv)) A) ([.ref h, .int (nI a9), .int (nI k9)]).toArray s 0 0 A) (F0 m 5 ls []) := by
    intro fz
    induction fz with
    | zero =>
      intro i hi hn H locs hP hD hS ls hl
      exact absurd hn (Nat.not_lt_zero _)
    | succ fz ih =>
      intro i hi hn H locs hP hD hS ls hl
      refine lv_iload hx hb dX1_numberAt_5 (lv_at hl 4 rfl) ?_
      refine lv_iload_n hx hb dX1_numberAt_7 rfl (lv_at hl 2 rfl) ?_
      refine lv_icmp_ge (tgt := 33) hx hb dX1_numberAt_8 (by decide) (fun c_1 => ?_) (fun c_1 => ?_)
      · skip
        refine lv_lload_n hx hb dX1_numberAt_33 rfl (lv_at hl 3 rfl) ?_
        exact W.lret (v := rd B a9 i) hx hb hr (fun t ht hW => ⟨⟨rd B a9 i, (), rfl, (by have q := (nI_leI (a := k9) (b := i) (by omega) (by omega)).mp c_1; have q2 : i = k9 := (by omega); rw [q2]), by rw [ht]; exact hP, va_K.moved hW.alike hK, hD⟩, hS.F ht⟩) hS.2.2 dX1_numberAt_34
      · skip
        have hik : i < k9 := by have q := (not_congr (nI_leI (a := k9) (b := i) (by omega) (by omega))).mp c_1; omega
        refine lv_lload_n hx hb dX1_numberAt_11 rfl (lv_at hl 3 rfl) ?_
        refine lv_bipush (v := 8) hx hb dX1_numberAt_12 (by decide) ?_
        refine lv_lshl hx hb dX1_numberAt_14 rfl ?_
        refine lv_aload_n hx hb dX1_numberAt_15 rfl (lv_at hl 0 rfl) ?_
        refine va_get (D := (dC, dI)) (ci := 1) (v := .ref a) (C := RX1) (T := TX1) (N := 17) hx hb hts hin0 hown hK hP 0 rfl rfl 1 (by decide) fl7 (fun _ h9 => h9) rfl dX1_numberAt_16 ?_
        refine lv_iload_n hx hb dX1_numberAt_19 rfl (lv_at hl 1 rfl) ?_
        refine lv_iload hx hb dX1_numberAt_20 (lv_at hl 4 rfl) ?_
        refine lv_iadd hx hb dX1_numberAt_22 ?_
        have e_2 : ((nI a9) + (nI i) : Int32) = nI (a9 + i) := nI_add a9 i
        rw [e_2]
        refine va_iald hx hb hK hP 1 0 rfl rfl (vp_in_nI (by omega) (by decide)) dX1_numberAt_23 ?_
        have e_3 : (f (nI (a9 + i)).toNatClampNeg : Int32) = nI (B (a9 + i)) := by rw [nI_clamp (by omega)]; exact hf9 _ (by omega)
        rw [e_3]
        refine lv_i2l hx hb dX1_numberAt_24 rfl ?_
        refine lv_lor hx hb dX1_numberAt_25 ?_
        refine lv_lstore_n (lv' := [(3, .long (((rd B a9 i) <<< ((8 : Int32).toInt64 &&& 63)) ||| ((nI (B (a9 + i))).toInt64))), (0, .ref h), (1, .int (nI a9)), (2, .int (nI k9)), (5, .int (nI i))]) hx hb dX1_numberAt_26 rfl hl (by decide) rfl (fun ls hl => ?_)
        refine lv_iinc (v := nI (i + 1)) (lv' := [(5, .int (nI (i + 1))), (3, .long (((rd B a9 i) <<< ((8 : Int32).toInt64 &&& 63)) ||| ((nI (B (a9 + i))).toInt64))), (0, .ref h), (1, .int (nI a9)), (2, .int (nI k9))]) hx hb dX1_numberAt_27 hl (k := 4) rfl (nI_1 i) (by decide) rfl (fun ls hl => ?_)
        refine lv_goto (tgt := 5) hx hb dX1_numberAt_30 (by decide) ?_
        exact ih (i + 1) (by omega) (by omega) _ _ hP hD hS ls (lv_sub hl [2, 3, 4, 1, 0] rfl)
  exact loop5 (k9 + 1) 0 (Nat.zero_le _) (by omega) _ _ hP hD hS ls (lv_sub hl [2, 3, 4, 1, 0] rfl)
set_option maxHeartbeats 4000000 in
set_option maxRecDepth 100000 in
theorem c_X1_closeDone (l : Launch) (dC : Nat → ClassId) (dI : Nat → Nat → Nat) (tk tw : Nat) (h a b : Nat) (cI cJ : ClassId) (sz : Nat) (f : Nat → Int32) (g : Nat → Int64) (zt : Int32) (zs : Int32) (zc : Int32) (zso : Int32) (znu : Int64) (zty : Int32) (zhd : Int32) (zpa : Int64) (zch : Int64) (zlk : Int32) (zlo : Int32) (zhi : Int32) (zlp : Int32) (zll : Int32) (k9 : Nat) (hk9 : k9 ≤ 100) : Met l yX1_closeDone wsX1_closeDone ({ frames := 0, cells := 0, slots := 0, locals := 0 }) (va_Pc [.ref h] (pr dC dI (t1 cI cJ) (w1 h a b cI cJ f g zt zs zc zso znu zty zhd zpa zch zlk zlo zhi zlp zll (nI k9)) sz tk tw)) (va_Qv (fun (_ : Unit) => True) (fun (_ : Unit) => po dC dI (t1 cI cJ) (va_A (w1 h a b cI cJ f g zt zs zc zso znu zty zhd zpa zch zlk zlo zhi zlp zll (nI k9)) sz) (w1 h a b cI cJ f g zt zs zc zso znu zty zhd zpa zch zlk zlo zhi zlp zll (nI (cl g k9)))) (va_A (w1 h a b cI cJ f g zt zs zc zso znu zty zhd zpa zch zlk zlo zhi zlp zll (nI k9)) sz)) 0 0 (va_A (w1 h a b cI cJ f g zt zs zc zso znu zty zhd zpa zch zlk zlo zhi zlp zll (nI k9)) sz) := by
  refine Met.ofW (cc := cX1_closeDone) (maxL := 1) (ret := none) (by decide) rfl ?_
  intro p e s m args below meth c s₁ Bd hml hv
  obtain ⟨rfl, hsz, hP, hK, hD0, hZ⟩ := hv
  have hx := Bd.exec
  have hb := Bd.bytes
  have hr := Bd.returns
  have hts := atoms_spec (ws := wsX1_closeDone) Bd.pre
  have hown : s.vm.findClass RX1 = some m.cls := findClass_of_methodNamed Bd.named
  have hlocks := Bd.notSynchronized
  subst hsz
  have hD := hD0.self (sz := s.heap.size)
  generalize hAe : va_A (w1 h a b cI cJ f g zt zs zc zso znu zty zhd zpa zch zlk zlo zhi zlp zll (nI k9)) s.heap.size = A at hD hZ ⊢
  have hA : ∀ q : Nat, s.heap.size ≤ q → A q := fun q h => by rw [← hAe]; exact Or.inr h
  have hS : va_S A s.heap s.heap [] := va_S.rf
  have hP : va_P (dC, dI) vwCl (w1 h a b cI cJ f g zt zs zc zso znu zty zhd zpa zch zlk zlo zhi zlp zll (nI k9)) s.heap := hP
  have hin0 : ∀ w ∈ wsX10, w ∈ wsX1_closeDone := by decide +kernel
  have fl17 := hts (.fieldLink RX1 17 "MessageReaderModel" "open" "[J") (by decide +kernel)
  have fl90 := hts (.fieldLink RX1 90 "MessageReaderModel" "level" "I") (by decide +kernel)
  have hl := lv_entry ([.ref h]) (n := 1) (Nat.le_of_ble_eq_true rfl)
  rw [lg_entry_eq]
  generalize (lg_sl ([.ref h]) ++ List.replicate (1 - (lg_sl ([.ref h])).length) Slot.unset).toArray = ls at hl ⊢
  have hl : lv_has ls 1 [(0, .ref h)] := hl
  have loop0 : ∀ (fz : Nat) (k : Nat), k < fz → k ≤ 100 → cl g k = cl g k9 → ∀ (H : Heap) (locs : List Loc), va_P (dC, dI) vwCl (w1 h a b cI cJ f g zt zs zc zso znu zty zhd zpa zch zlk zlo zhi zlp zll (nI k)) H → va_D A (w1 h a b cI cJ f g zt zs zc zso znu zty zhd zpa zch zlk zlo zhi zlp zll (nI k)) → va_S A s.heap H locs → ∀ ls : Array Slot, lv_has ls 1 [(0, .ref h)] → W p l e (headSpec wsX1_closeDone ({ frames := 0, cells := 0, slots := 0, locals := 0 })).room s m ([.ref h]).toArray below meth c H locs 0 0 (MQ below (va_Qv (fun (_ : Unit) => True) (fun (_ : Unit) => po dC dI (t1 cI cJ) A (w1 h a b cI cJ f g zt zs zc zso znu zty zhd zpa zch zlk zlo zhi zlp zll (nI (cl g k9)))) A) ([.ref h]).toArray s 0 0 A) (F0 m 0 ls []) := by
    intro fz
    induction fz with
    | zero =>
      intro k hk hk1 hcl H locs hP hD hS ls hl
      exact absurd hk (Nat.not_lt_zero _)
    | succ fz ih =>
      intro k hk hk1 hcl H locs hP hD hS ls hl
      refine lv_aload_n hx hb dX1_closeDone_0 rfl (lv_at hl 0 rfl) ?_
      refine va_get (D := (dC, dI)) (ci := 1) (v := .int (nI k)) (C := RX1) (T := TX1) (N := 17) hx hb hts hin0 hown hK hP 0 rfl rfl 16 (by decide) fl90 (fun _ h9 => h9) rfl dX1_closeDone_1 ?_
      refine lv_if_le (tgt := 36) hx hb dX1_closeDone_4 (by decide) (fun c_1 => ?_) (fun c_1 => ?_)
      · skip
        have hP9 : va_P (dC, dI) vwCl ((fun (_ : Unit) => w1 h a b cI cJ f g zt zs zc zso znu zty zhd zpa zch zlk zlo zhi zlp zll (nI (cl g k9))) (())) H := by rw [← hcl, show cl g k = k from cl_e (Or.inl (Nat.eq_zero_of_not_pos (fun z => nI_nle z (by omega) c_1)))]; exact hP
        have hD9 : va_D A ((fun (_ : Unit) => w1 h a b cI cJ f g zt zs zc zso znu zty zhd zpa zch zlk zlo zhi zlp zll (nI (cl g k9))) (())) := by rw [← hcl, show cl g k = k from cl_e (Or.inl (Nat.eq_zero_of_not_pos (fun z => nI_nle z (by omega) c_1)))]; exact hD
        exact W.vret hx hb hr (fun t ht hW => ⟨⟨(), rfl, trivial, by rw [ht]; exact hP9, va_K.moved hW.alike hK, hD9⟩, hS.F ht⟩) hS.2.2 dX1_closeDone_36
      · skip
        have q0 : 0 < k := Nat.pos_of_ne_zero (fun z => c_1 (by rw [z]; decide))
        have q1 : nI k - 1 = nI (k - 1) := pk_sub (b := 1) q0
        refine lv_aload_n hx hb dX1_closeDone_7 rfl (lv_at hl 0 rfl) ?_
        refine va_get (D := (dC, dI)) (ci := 1) (v := .ref b) (C := RX1) (T := TX1) (N := 17) hx hb hts hin0 hown hK hP 0 rfl rfl 15 (by decide) fl17 (fun _ h9 => h9) rfl dX1_closeDone_8 ?_
        refine lv_aload_n hx hb dX1_closeDone_11 rfl (lv_at hl 0 rfl) ?_
        refine va_get (D := (dC, dI)) (ci := 1) (v := .int (nI k)) (C := RX1) (T := TX1) (N := 17) hx hb hts hin0 hown hK hP 0 rfl rfl 16 (by decide) fl90 (fun _ h9 => h9) rfl dX1_closeDone_12 ?_
        refine lv_iconst (v := 1) hx hb dX1_closeDone_15 (by decide) ?_
        refine lv_isub hx hb dX1_closeDone_16 ?_
        have e_2 : ((nI k) - 1 : Int32) = nI (k - 1) := q1
        rw [e_2]
        refine va_lald hx hb hK hP 2 1 rfl rfl (vp_in_nI (by omega) (by decide)) dX1_closeDone_17 ?_
        refine lv_lconst (v := 0) hx hb dX1_closeDone_18 (by decide) ?_
        refine W.lcmp hx hb dX1_closeDone_19 ?_
        refine lv_if_ne (tgt := 36) hx hb dX1_closeDone_20 (by decide) (fun c_3 => ?_) (fun c_3 => ?_)
        · skip
          have c_3 := (not_congr (lg_cmp_eq (g (nI (k - 1)).toNatClampNeg) (0 : Int64))).mp c_3
          have hP9 : va_P (dC, dI) vwCl ((fun (_ : Unit) => w1 h a b cI cJ f g zt zs zc zso znu zty zhd zpa zch zlk zlo zhi zlp zll (nI (cl g k9))) (())) H := by rw [← hcl, show cl g k = k from cl_e (Or.inr (by rw [nI_clamp (by omega)] at c_3; exact c_3))]; exact hP
          have hD9 : va_D A ((fun (_ : Unit) => w1 h a b cI cJ f g zt zs zc zso znu zty zhd zpa zch zlk zlo zhi zlp zll (nI (cl g k9))) (())) := by rw [← hcl, show cl g k = k from cl_e (Or.inr (by rw [nI_clamp (by omega)] at c_3; exact c_3))]; exact hD
          exact W.vret hx hb hr (fun t ht hW => ⟨⟨(), rfl, trivial, by rw [ht]; exact hP9, va_K.moved hW.alike hK, hD9⟩, hS.F ht⟩) hS.2.2 dX1_closeDone_36
        · skip
          have c_3 := (lg_cmp_eq (g (nI (k - 1)).toNatClampNeg) (0 : Int64)).mp c_3
          refine lv_aload_n hx hb dX1_closeDone_23 rfl (lv_at hl 0 rfl) ?_
          refine lv_dup hx hb dX1_closeDone_24 rfl ?_
          refine va_get (D := (dC, dI)) (ci := 1) (v := .int (nI k)) (C := RX1) (T := TX1) (N := 17) hx hb hts hin0 hown hK hP 0 rfl rfl 16 (by decide) fl90 (fun _ h9 => h9) rfl dX1_closeDone_25 ?_
          refine lv_iconst (v := 1) hx hb dX1_closeDone_28 (by decide) ?_
          refine lv_isub hx hb dX1_closeDone_29 ?_
          have e_4 : ((nI k) - 1 : Int32) = nI (k - 1) := q1
          rw [e_4]
          refine va_put (D := (dC, dI)) (ci := 1) (v := .int (nI (k - 1))) (ty := .int) (C := RX1) (T := TX1) (N := 17) hx hb hts hin0 tyX1 tyX1_ok nmX1 hown hK hP hD hS 0 rfl rfl 16 (by decide) fl90 (fun _ h9 => h9) rfl (by decide +kernel) rfl rfl (Nat.le_of_ble_eq_true rfl) dX1_closeDone_30 (fun H locs hP hD hS => ?_)
          have hP : va_P (dC, dI) vwCl (w1 h a b cI cJ f g zt zs zc zso znu zty zhd zpa zch zlk zlo zhi zlp zll (nI (k - 1))) H := hP
          have hD : va_D A (w1 h a b cI cJ f g zt zs zc zso znu zty zhd zpa zch zlk zlo zhi zlp zll (nI (k - 1))) := hD
          refine lv_goto (tgt := 0) hx hb dX1_closeDone_33 (by decide) ?_
          exact ih (k - 1) (by omega) (by omega) (by rw [← hcl]; exact (cl_z q0 (by rw [nI_clamp (by omega)] at c_3; exact c_3)).symm) _ _ hP hD hS ls (lv_sub hl [0] rfl)
  exact loop0 (k9 + 1) k9 (by omega) hk9 rfl _ _ hP hD hS ls (lv_sub hl [0] rfl)
set_option maxHeartbeats 4000000 in
set_option maxRecDepth 100000 in
theorem c_X1_thrown (l : Launch) (dC : Nat → ClassId) (dI : Nat → Nat → Nat) (tk tw : Nat) (h a b : Nat) (cI cJ : ClassId) (sz : Nat) (f : Nat → Int32) (g : Nat → Int64) (zt : Int32) (zs : Int32) (zc : Int32) (zso : Int32) (znu : Int64) (zty : Int32) (zhd : Int32) (zpa : Int64) (zch : Int64) (zlk : Int32) (zlo : Int32) (zhi : Int32) (zlp : Int32) (zll : Int32) (zlv : Int32)  : Met l yX1_thrown wsX1_thrown ({ frames := 0, cells := 0, slots := 0, locals := 0 }) (va_Pc [.ref h] (pr dC dI (t1 cI cJ) (w1 h a b cI cJ f g zt zs zc zso znu zty zhd zpa zch zlk zlo zhi zlp zll zlv) sz tk tw)) (va_Qi (fun (r : Int32) (_ : Unit) => r = zt) (fun (_ : Unit) => po dC dI (t1 cI cJ) (va_A (w1 h a b cI cJ f g zt zs zc zso znu zty zhd zpa zch zlk zlo zhi zlp zll zlv) sz) (w1 h a b cI cJ f g zt zs zc zso znu zty zhd zpa zch zlk zlo zhi zlp zll zlv)) (va_A (w1 h a b cI cJ f g zt zs zc zso znu zty zhd zpa zch zlk zlo zhi zlp zll zlv) sz)) 0 0 (va_A (w1 h a b cI cJ f g zt zs zc zso znu zty zhd zpa zch zlk zlo zhi zlp zll zlv) sz) := by
  refine Met.ofW (cc := cX1_thrown) (maxL := 1) (ret := (some .int)) (by decide) rfl ?_
  intro p e s m args below meth c s₁ Bd hml hv
  obtain ⟨rfl, hsz, hP, hK, hD0, hZ⟩ := hv
  have hx := Bd.exec
  have hb := Bd.bytes
  have hr := Bd.returns
  have hts := atoms_spec (ws := wsX1_thrown) Bd.pre
  have hown : s.vm.findClass RX1 = some m.cls := findClass_of_methodNamed Bd.named
  have hlocks := Bd.notSynchronized
  subst hsz
  have hD := hD0.self (sz := s.heap.size)
  generalize hAe : va_A (w1 h a b cI cJ f g zt zs zc zso znu zty zhd zpa zch zlk zlo zhi zlp zll zlv) s.heap.size = A at hD hZ ⊢
  have hA : ∀ q : Nat, s.heap.size ≤ q → A q := fun q h => by rw [← hAe]; exact Or.inr h
  have hS : va_S A s.heap s.heap [] := va_S.rf
  have hP : va_P (dC, dI) vwCl (w1 h a b cI cJ f g zt zs zc zso znu zty zhd zpa zch zlk zlo zhi zlp zll zlv) s.heap := hP
  have hin0 : ∀ w ∈ wsX10, w ∈ wsX1_thrown := by decide +kernel
  have fl21 := hts (.fieldLink RX1 21 "MessageReaderModel" "thrown" "I") (by decide +kernel)
  have hl := lv_entry ([.ref h]) (n := 1) (Nat.le_of_ble_eq_true rfl)
  rw [lg_entry_eq]
  generalize (lg_sl ([.ref h]) ++ List.replicate (1 - (lg_sl ([.ref h])).length) Slot.unset).toArray = ls at hl ⊢
  have hl : lv_has ls 1 [(0, .ref h)] := hl
  refine lv_aload_n hx hb dX1_thrown_0 rfl (lv_at hl 0 rfl) ?_
  refine va_get (D := (dC, dI)) (ci := 1) (v := .int zt) (C := RX1) (T := TX1) (N := 17) hx hb hts hin0 hown hK hP 0 rfl rfl 0 (by decide) fl21 (fun _ h9 => h9) rfl dX1_thrown_1 ?_
  exact W.iret (v := zt) hx hb hr (fun t ht hW => ⟨⟨zt, (), rfl, rfl, by rw [ht]; exact hP, va_K.moved hW.alike hK, hD⟩, hS.F ht⟩) hS.2.2 dX1_thrown_4
set_option maxHeartbeats 4000000 in
set_option maxRecDepth 100000 in
theorem c_X1_kind (l : Launch) (dC : Nat → ClassId) (dI : Nat → Nat → Nat) (tk tw : Nat) (h a b : Nat) (cI cJ : ClassId) (sz : Nat) (f : Nat → Int32) (g : Nat → Int64) (zt : Int32) (zs : Int32) (zc : Int32) (zso : Int32) (znu : Int64) (zty : Int32) (zhd : Int32) (zpa : Int64) (zch : Int64) (zlk : Int32) (zlo : Int32) (zhi : Int32) (zlp : Int32) (zll : Int32) (zlv : Int32)  : Met l yX1_kind wsX1_kind ({ frames := 0, cells := 0, slots := 0, locals := 0 }) (va_Pc [.ref h] (pr dC dI (t1 cI cJ) (w1 h a b cI cJ f g zt zs zc zso znu zty zhd zpa zch zlk zlo zhi zlp zll zlv) sz tk tw)) (va_Qi (fun (r : Int32) (_ : Unit) => r = zlk) (fun (_ : Unit) => po dC dI (t1 cI cJ) (va_A (w1 h a b cI cJ f g zt zs zc zso znu zty zhd zpa zch zlk zlo zhi zlp zll zlv) sz) (w1 h a b cI cJ f g 0 zs zc zso znu zty zhd zpa zch zlk zlo zhi zlp zll zlv)) (va_A (w1 h a b cI cJ f g zt zs zc zso znu zty zhd zpa zch zlk zlo zhi zlp zll zlv) sz)) 0 0 (va_A (w1 h a b cI cJ f g zt zs zc zso znu zty zhd zpa zch zlk zlo zhi zlp zll zlv) sz) := by
  refine Met.ofW (cc := cX1_kind) (maxL := 1) (ret := (some .int)) (by decide) rfl ?_
  intro p e s m args below meth c s₁ Bd hml hv
  obtain ⟨rfl, hsz, hP, hK, hD0, hZ⟩ := hv
  have hx := Bd.exec
  have hb := Bd.bytes
  have hr := Bd.returns
  have hts := atoms_spec (ws := wsX1_kind) Bd.pre
  have hown : s.vm.findClass RX1 = some m.cls := findClass_of_methodNamed Bd.named
  have hlocks := Bd.notSynchronized
  subst hsz
  have hD := hD0.self (sz := s.heap.size)
  generalize hAe : va_A (w1 h a b cI cJ f g zt zs zc zso znu zty zhd zpa zch zlk zlo zhi zlp zll zlv) s.heap.size = A at hD hZ ⊢
  have hA : ∀ q : Nat, s.heap.size ≤ q → A q := fun q h => by rw [← hAe]; exact Or.inr h
  have hS : va_S A s.heap s.heap [] := va_S.rf
  have hP : va_P (dC, dI) vwCl (w1 h a b cI cJ f g zt zs zc zso znu zty zhd zpa zch zlk zlo zhi zlp zll zlv) s.heap := hP
  have hin0 : ∀ w ∈ wsX10, w ∈ wsX1_kind := by decide +kernel
  have fl13 := hts (.fieldLink RX1 13 "MessageReaderModel" "lastKind" "I") (by decide +kernel)
  have fl21 := hts (.fieldLink RX1 21 "MessageReaderModel" "thrown" "I") (by decide +kernel)
  have hl := lv_entry ([.ref h]) (n := 1) (Nat.le_of_ble_eq_true rfl)
  rw [lg_entry_eq]
  generalize (lg_sl ([.ref h]) ++ List.replicate (1 - (lg_sl ([.ref h])).length) Slot.unset).toArray = ls at hl ⊢
  have hl : lv_has ls 1 [(0, .ref h)] := hl
  refine lv_aload_n hx hb dX1_kind_0 rfl (lv_at hl 0 rfl) ?_
  refine lv_iconst (v := 0) hx hb dX1_kind_1 (by decide) ?_
  refine va_put (D := (dC, dI)) (ci := 1) (v := .int 0) (ty := .int) (C := RX1) (T := TX1) (N := 17) hx hb hts hin0 tyX1 tyX1_ok nmX1 hown hK hP hD hS 0 rfl rfl 0 (by decide) fl21 (fun _ h9 => h9) rfl (by decide +kernel) rfl rfl (Nat.le_of_ble_eq_true rfl) dX1_kind_2 (fun H locs hP hD hS => ?_)
  have hP : va_P (dC, dI) vwCl (w1 h a b cI cJ f g 0 zs zc zso znu zty zhd zpa zch zlk zlo zhi zlp zll zlv) H := hP
  have hD : va_D A (w1 h a b cI cJ f g 0 zs zc zso znu zty zhd zpa zch zlk zlo zhi zlp zll zlv) := hD
  refine lv_aload_n hx hb dX1_kind_5 rfl (lv_at hl 0 rfl) ?_
  refine va_get (D := (dC, dI)) (ci := 1) (v := .int zlk) (C := RX1) (T := TX1) (N := 17) hx hb hts hin0 hown hK hP 0 rfl rfl 10 (by decide) fl13 (fun _ h9 => h9) rfl dX1_kind_6 ?_
  have hP9 : va_P (dC, dI) vwCl ((fun (_ : Unit) => w1 h a b cI cJ f g 0 zs zc zso znu zty zhd zpa zch zlk zlo zhi zlp zll zlv) (())) H := hP
  have hD9 : va_D A ((fun (_ : Unit) => w1 h a b cI cJ f g 0 zs zc zso znu zty zhd zpa zch zlk zlo zhi zlp zll zlv) (())) := hD
  exact W.iret (v := zlk) hx hb hr (fun t ht hW => ⟨⟨zlk, (), rfl, rfl, by rw [ht]; exact hP9, va_K.moved hW.alike hK, hD9⟩, hS.F ht⟩) hS.2.2 dX1_kind_9
set_option maxHeartbeats 4000000 in
set_option maxRecDepth 100000 in
theorem c_X1_valueLow (l : Launch) (dC : Nat → ClassId) (dI : Nat → Nat → Nat) (tk tw : Nat) (h a b : Nat) (cI cJ : ClassId) (sz : Nat) (f : Nat → Int32) (g : Nat → Int64) (zt : Int32) (zs : Int32) (zc : Int32) (zso : Int32) (znu : Int64) (zty : Int32) (zhd : Int32) (zpa : Int64) (zch : Int64) (zlk : Int32) (zlo : Int32) (zhi : Int32) (zlp : Int32) (zll : Int32) (zlv : Int32)  : Met l yX1_valueLow wsX1_valueLow ({ frames := 0, cells := 0, slots := 0, locals := 0 }) (va_Pc [.ref h] (pr dC dI (t1 cI cJ) (w1 h a b cI cJ f g zt zs zc zso znu zty zhd zpa zch zlk zlo zhi zlp zll zlv) sz tk tw)) (va_Qi (fun (r : Int32) (_ : Unit) => r = zlo) (fun (_ : Unit) => po dC dI (t1 cI cJ) (va_A (w1 h a b cI cJ f g zt zs zc zso znu zty zhd zpa zch zlk zlo zhi zlp zll zlv) sz) (w1 h a b cI cJ f g 0 zs zc zso znu zty zhd zpa zch zlk zlo zhi zlp zll zlv)) (va_A (w1 h a b cI cJ f g zt zs zc zso znu zty zhd zpa zch zlk zlo zhi zlp zll zlv) sz)) 0 0 (va_A (w1 h a b cI cJ f g zt zs zc zso znu zty zhd zpa zch zlk zlo zhi zlp zll zlv) sz) := by
  refine Met.ofW (cc := cX1_valueLow) (maxL := 1) (ret := (some .int)) (by decide) rfl ?_
  intro p e s m args below meth c s₁ Bd hml hv
  obtain ⟨rfl, hsz, hP, hK, hD0, hZ⟩ := hv
  have hx := Bd.exec
  have hb := Bd.bytes
  have hr := Bd.returns
  have hts := atoms_spec (ws := wsX1_valueLow) Bd.pre
  have hown : s.vm.findClass RX1 = some m.cls := findClass_of_methodNamed Bd.named
  have hlocks := Bd.notSynchronized
  subst hsz
  have hD := hD0.self (sz := s.heap.size)
  generalize hAe : va_A (w1 h a b cI cJ f g zt zs zc zso znu zty zhd zpa zch zlk zlo zhi zlp zll zlv) s.heap.size = A at hD hZ ⊢
  have hA : ∀ q : Nat, s.heap.size ≤ q → A q := fun q h => by rw [← hAe]; exact Or.inr h
  have hS : va_S A s.heap s.heap [] := va_S.rf
  have hP : va_P (dC, dI) vwCl (w1 h a b cI cJ f g zt zs zc zso znu zty zhd zpa zch zlk zlo zhi zlp zll zlv) s.heap := hP
  have hin0 : ∀ w ∈ wsX10, w ∈ wsX1_valueLow := by decide +kernel
  have fl21 := hts (.fieldLink RX1 21 "MessageReaderModel" "thrown" "I") (by decide +kernel)
  have fl78 := hts (.fieldLink RX1 78 "MessageReaderModel" "low" "I") (by decide +kernel)
  have hl := lv_entry ([.ref h]) (n := 1) (Nat.le_of_ble_eq_true rfl)
  rw [lg_entry_eq]
  generalize (lg_sl ([.ref h]) ++ List.replicate (1 - (lg_sl ([.ref h])).length) Slot.unset).toArray = ls at hl ⊢
  have hl : lv_has ls 1 [(0, .ref h)] := hl
  refine lv_aload_n hx hb dX1_valueLow_0 rfl (lv_at hl 0 rfl) ?_
  refine lv_iconst (v := 0) hx hb dX1_valueLow_1 (by decide) ?_
  refine va_put (D := (dC, dI)) (ci := 1) (v := .int 0) (ty := .int) (C := RX1) (T := TX1) (N := 17) hx hb hts hin0 tyX1 tyX1_ok nmX1 hown hK hP hD hS 0 rfl rfl 0 (by decide) fl21 (fun _ h9 => h9) rfl (by decide +kernel) rfl rfl (Nat.le_of_ble_eq_true rfl) dX1_valueLow_2 (fun H locs hP hD hS => ?_)
  have hP : va_P (dC, dI) vwCl (w1 h a b cI cJ f g 0 zs zc zso znu zty zhd zpa zch zlk zlo zhi zlp zll zlv) H := hP
  have hD : va_D A (w1 h a b cI cJ f g 0 zs zc zso znu zty zhd zpa zch zlk zlo zhi zlp zll zlv) := hD
  refine lv_aload_n hx hb dX1_valueLow_5 rfl (lv_at hl 0 rfl) ?_
  refine va_get (D := (dC, dI)) (ci := 1) (v := .int zlo) (C := RX1) (T := TX1) (N := 17) hx hb hts hin0 hown hK hP 0 rfl rfl 11 (by decide) fl78 (fun _ h9 => h9) rfl dX1_valueLow_6 ?_
  have hP9 : va_P (dC, dI) vwCl ((fun (_ : Unit) => w1 h a b cI cJ f g 0 zs zc zso znu zty zhd zpa zch zlk zlo zhi zlp zll zlv) (())) H := hP
  have hD9 : va_D A ((fun (_ : Unit) => w1 h a b cI cJ f g 0 zs zc zso znu zty zhd zpa zch zlk zlo zhi zlp zll zlv) (())) := hD
  exact W.iret (v := zlo) hx hb hr (fun t ht hW => ⟨⟨zlo, (), rfl, rfl, by rw [ht]; exact hP9, va_K.moved hW.alike hK, hD9⟩, hS.F ht⟩) hS.2.2 dX1_valueLow_9
set_option maxHeartbeats 4000000 in
set_option maxRecDepth 100000 in
theorem c_X1_valueHigh (l : Launch) (dC : Nat → ClassId) (dI : Nat → Nat → Nat) (tk tw : Nat) (h a b : Nat) (cI cJ : ClassId) (sz : Nat) (f : Nat → Int32) (g : Nat → Int64) (zt : Int32) (zs : Int32) (zc : Int32) (zso : Int32) (znu : Int64) (zty : Int32) (zhd : Int32) (zpa : Int64) (zch : Int64) (zlk : Int32) (zlo : Int32) (zhi : Int32) (zlp : Int32) (zll : Int32) (zlv : Int32)  : Met l yX1_valueHigh wsX1_valueHigh ({ frames := 0, cells := 0, slots := 0, locals := 0 }) (va_Pc [.ref h] (pr dC dI (t1 cI cJ) (w1 h a b cI cJ f g zt zs zc zso znu zty zhd zpa zch zlk zlo zhi zlp zll zlv) sz tk tw)) (va_Qi (fun (r : Int32) (_ : Unit) => r = zhi) (fun (_ : Unit) => po dC dI (t1 cI cJ) (va_A (w1 h a b cI cJ f g zt zs zc zso znu zty zhd zpa zch zlk zlo zhi zlp zll zlv) sz) (w1 h a b cI cJ f g 0 zs zc zso znu zty zhd zpa zch zlk zlo zhi zlp zll zlv)) (va_A (w1 h a b cI cJ f g zt zs zc zso znu zty zhd zpa zch zlk zlo zhi zlp zll zlv) sz)) 0 0 (va_A (w1 h a b cI cJ f g zt zs zc zso znu zty zhd zpa zch zlk zlo zhi zlp zll zlv) sz) := by
  refine Met.ofW (cc := cX1_valueHigh) (maxL := 1) (ret := (some .int)) (by decide) rfl ?_
  intro p e s m args below meth c s₁ Bd hml hv
  obtain ⟨rfl, hsz, hP, hK, hD0, hZ⟩ := hv
  have hx := Bd.exec
  have hb := Bd.bytes
  have hr := Bd.returns
  have hts := atoms_spec (ws := wsX1_valueHigh) Bd.pre
  have hown : s.vm.findClass RX1 = some m.cls := findClass_of_methodNamed Bd.named
  have hlocks := Bd.notSynchronized
  subst hsz
  have hD := hD0.self (sz := s.heap.size)
  generalize hAe : va_A (w1 h a b cI cJ f g zt zs zc zso znu zty zhd zpa zch zlk zlo zhi zlp zll zlv) s.heap.size = A at hD hZ ⊢
  have hA : ∀ q : Nat, s.heap.size ≤ q → A q := fun q h => by rw [← hAe]; exact Or.inr h
  have hS : va_S A s.heap s.heap [] := va_S.rf
  have hP : va_P (dC, dI) vwCl (w1 h a b cI cJ f g zt zs zc zso znu zty zhd zpa zch zlk zlo zhi zlp zll zlv) s.heap := hP
  have hin0 : ∀ w ∈ wsX10, w ∈ wsX1_valueHigh := by decide +kernel
  have fl21 := hts (.fieldLink RX1 21 "MessageReaderModel" "thrown" "I") (by decide +kernel)
  have fl81 := hts (.fieldLink RX1 81 "MessageReaderModel" "high" "I") (by decide +kernel)
  have hl := lv_entry ([.ref h]) (n := 1) (Nat.le_of_ble_eq_true rfl)
  rw [lg_entry_eq]
  generalize (lg_sl ([.ref h]) ++ List.replicate (1 - (lg_sl ([.ref h])).length) Slot.unset).toArray = ls at hl ⊢
  have hl : lv_has ls 1 [(0, .ref h)] := hl
  refine lv_aload_n hx hb dX1_valueHigh_0 rfl (lv_at hl 0 rfl) ?_
  refine lv_iconst (v := 0) hx hb dX1_valueHigh_1 (by decide) ?_
  refine va_put (D := (dC, dI)) (ci := 1) (v := .int 0) (ty := .int) (C := RX1) (T := TX1) (N := 17) hx hb hts hin0 tyX1 tyX1_ok nmX1 hown hK hP hD hS 0 rfl rfl 0 (by decide) fl21 (fun _ h9 => h9) rfl (by decide +kernel) rfl rfl (Nat.le_of_ble_eq_true rfl) dX1_valueHigh_2 (fun H locs hP hD hS => ?_)
  have hP : va_P (dC, dI) vwCl (w1 h a b cI cJ f g 0 zs zc zso znu zty zhd zpa zch zlk zlo zhi zlp zll zlv) H := hP
  have hD : va_D A (w1 h a b cI cJ f g 0 zs zc zso znu zty zhd zpa zch zlk zlo zhi zlp zll zlv) := hD
  refine lv_aload_n hx hb dX1_valueHigh_5 rfl (lv_at hl 0 rfl) ?_
  refine va_get (D := (dC, dI)) (ci := 1) (v := .int zhi) (C := RX1) (T := TX1) (N := 17) hx hb hts hin0 hown hK hP 0 rfl rfl 12 (by decide) fl81 (fun _ h9 => h9) rfl dX1_valueHigh_6 ?_
  have hP9 : va_P (dC, dI) vwCl ((fun (_ : Unit) => w1 h a b cI cJ f g 0 zs zc zso znu zty zhd zpa zch zlk zlo zhi zlp zll zlv) (())) H := hP
  have hD9 : va_D A ((fun (_ : Unit) => w1 h a b cI cJ f g 0 zs zc zso znu zty zhd zpa zch zlk zlo zhi zlp zll zlv) (())) := hD
  exact W.iret (v := zhi) hx hb hr (fun t ht hW => ⟨⟨zhi, (), rfl, rfl, by rw [ht]; exact hP9, va_K.moved hW.alike hK, hD9⟩, hS.F ht⟩) hS.2.2 dX1_valueHigh_9
set_option maxHeartbeats 4000000 in
set_option maxRecDepth 100000 in
theorem c_X1_level (l : Launch) (dC : Nat → ClassId) (dI : Nat → Nat → Nat) (tk tw : Nat) (h a b : Nat) (cI cJ : ClassId) (sz : Nat) (f : Nat → Int32) (g : Nat → Int64) (zt : Int32) (zs : Int32) (zc : Int32) (zso : Int32) (znu : Int64) (zty : Int32) (zhd : Int32) (zpa : Int64) (zch : Int64) (zlk : Int32) (zlo : Int32) (zhi : Int32) (zlp : Int32) (zll : Int32) (zlv : Int32)  : Met l yX1_level wsX1_level ({ frames := 0, cells := 0, slots := 0, locals := 0 }) (va_Pc [.ref h] (pr dC dI (t1 cI cJ) (w1 h a b cI cJ f g zt zs zc zso znu zty zhd zpa zch zlk zlo zhi zlp zll zlv) sz tk tw)) (va_Qi (fun (r : Int32) (_ : Unit) => r = zlv) (fun (_ : Unit) => po dC dI (t1 cI cJ) (va_A (w1 h a b cI cJ f g zt zs zc zso znu zty zhd zpa zch zlk zlo zhi zlp zll zlv) sz) (w1 h a b cI cJ f g 0 zs zc zso znu zty zhd zpa zch zlk zlo zhi zlp zll zlv)) (va_A (w1 h a b cI cJ f g zt zs zc zso znu zty zhd zpa zch zlk zlo zhi zlp zll zlv) sz)) 0 0 (va_A (w1 h a b cI cJ f g zt zs zc zso znu zty zhd zpa zch zlk zlo zhi zlp zll zlv) sz) := by
  refine Met.ofW (cc := cX1_level) (maxL := 1) (ret := (some .int)) (by decide) rfl ?_
  intro p e s m args below meth c s₁ Bd hml hv
  obtain ⟨rfl, hsz, hP, hK, hD0, hZ⟩ := hv
  have hx := Bd.exec
  have hb := Bd.bytes
  have hr := Bd.returns
  have hts := atoms_spec (ws := wsX1_level) Bd.pre
  have hown : s.vm.findClass RX1 = some m.cls := findClass_of_methodNamed Bd.named
  have hlocks := Bd.notSynchronized
  subst hsz
  have hD := hD0.self (sz := s.heap.size)
  generalize hAe : va_A (w1 h a b cI cJ f g zt zs zc zso znu zty zhd zpa zch zlk zlo zhi zlp zll zlv) s.heap.size = A at hD hZ ⊢
  have hA : ∀ q : Nat, s.heap.size ≤ q → A q := fun q h => by rw [← hAe]; exact Or.inr h
  have hS : va_S A s.heap s.heap [] := va_S.rf
  have hP : va_P (dC, dI) vwCl (w1 h a b cI cJ f g zt zs zc zso znu zty zhd zpa zch zlk zlo zhi zlp zll zlv) s.heap := hP
  have hin0 : ∀ w ∈ wsX10, w ∈ wsX1_level := by decide +kernel
  have fl21 := hts (.fieldLink RX1 21 "MessageReaderModel" "thrown" "I") (by decide +kernel)
  have fl90 := hts (.fieldLink RX1 90 "MessageReaderModel" "level" "I") (by decide +kernel)
  have hl := lv_entry ([.ref h]) (n := 1) (Nat.le_of_ble_eq_true rfl)
  rw [lg_entry_eq]
  generalize (lg_sl ([.ref h]) ++ List.replicate (1 - (lg_sl ([.ref h])).length) Slot.unset).toArray = ls at hl ⊢
  have hl : lv_has ls 1 [(0, .ref h)] := hl
  refine lv_aload_n hx hb dX1_level_0 rfl (lv_at hl 0 rfl) ?_
  refine lv_iconst (v := 0) hx hb dX1_level_1 (by decide) ?_
  refine va_put (D := (dC, dI)) (ci := 1) (v := .int 0) (ty := .int) (C := RX1) (T := TX1) (N := 17) hx hb hts hin0 tyX1 tyX1_ok nmX1 hown hK hP hD hS 0 rfl rfl 0 (by decide) fl21 (fun _ h9 => h9) rfl (by decide +kernel) rfl rfl (Nat.le_of_ble_eq_true rfl) dX1_level_2 (fun H locs hP hD hS => ?_)
  have hP : va_P (dC, dI) vwCl (w1 h a b cI cJ f g 0 zs zc zso znu zty zhd zpa zch zlk zlo zhi zlp zll zlv) H := hP
  have hD : va_D A (w1 h a b cI cJ f g 0 zs zc zso znu zty zhd zpa zch zlk zlo zhi zlp zll zlv) := hD
  refine lv_aload_n hx hb dX1_level_5 rfl (lv_at hl 0 rfl) ?_
  refine va_get (D := (dC, dI)) (ci := 1) (v := .int zlv) (C := RX1) (T := TX1) (N := 17) hx hb hts hin0 hown hK hP 0 rfl rfl 16 (by decide) fl90 (fun _ h9 => h9) rfl dX1_level_6 ?_
  have hP9 : va_P (dC, dI) vwCl ((fun (_ : Unit) => w1 h a b cI cJ f g 0 zs zc zso znu zty zhd zpa zch zlk zlo zhi zlp zll zlv) (())) H := hP
  have hD9 : va_D A ((fun (_ : Unit) => w1 h a b cI cJ f g 0 zs zc zso znu zty zhd zpa zch zlk zlo zhi zlp zll zlv) (())) := hD
  exact W.iret (v := zlv) hx hb hr (fun t ht hW => ⟨⟨zlv, (), rfl, rfl, by rw [ht]; exact hP9, va_K.moved hW.alike hK, hD9⟩, hS.F ht⟩) hS.2.2 dX1_level_9
set_option maxHeartbeats 4000000 in
set_option maxRecDepth 100000 in
theorem c_X1_consumed (l : Launch) (dC : Nat → ClassId) (dI : Nat → Nat → Nat) (tk tw : Nat) (h a b : Nat) (cI cJ : ClassId) (sz : Nat) (f : Nat → Int32) (g : Nat → Int64) (zt : Int32) (zs : Int32) (zc : Int32) (zso : Int32) (znu : Int64) (zty : Int32) (zhd : Int32) (zpa : Int64) (zch : Int64) (zlk : Int32) (zlo : Int32) (zhi : Int32) (zlp : Int32) (zll : Int32) (zlv : Int32)  : Met l yX1_consumed wsX1_consumed ({ frames := 0, cells := 0, slots := 0, locals := 0 }) (va_Pc [.ref h] (pr dC dI (t1 cI cJ) (w1 h a b cI cJ f g zt zs zc zso znu zty zhd zpa zch zlk zlo zhi zlp zll zlv) sz tk tw)) (va_Qi (fun (r : Int32) (_ : Unit) => r = zc) (fun (_ : Unit) => po dC dI (t1 cI cJ) (va_A (w1 h a b cI cJ f g zt zs zc zso znu zty zhd zpa zch zlk zlo zhi zlp zll zlv) sz) (w1 h a b cI cJ f g 0 zs zc zso znu zty zhd zpa zch zlk zlo zhi zlp zll zlv)) (va_A (w1 h a b cI cJ f g zt zs zc zso znu zty zhd zpa zch zlk zlo zhi zlp zll zlv) sz)) 0 0 (va_A (w1 h a b cI cJ f g zt zs zc zso znu zty zhd zpa zch zlk zlo zhi zlp zll zlv) sz) := by
  refine Met.ofW (cc := cX1_consumed) (maxL := 1) (ret := (some .int)) (by decide) rfl ?_
  intro p e s m args below meth c s₁ Bd hml hv
  obtain ⟨rfl, hsz, hP, hK, hD0, hZ⟩ := hv
  have hx := Bd.exec
  have hb := Bd.bytes
  have hr := Bd.returns
  have hts := atoms_spec (ws := wsX1_consumed) Bd.pre
  have hown : s.vm.findClass RX1 = some m.cls := findClass_of_methodNamed Bd.named
  have hlocks := Bd.notSynchronized
  subst hsz
  have hD := hD0.self (sz := s.heap.size)
  generalize hAe : va_A (w1 h a b cI cJ f g zt zs zc zso znu zty zhd zpa zch zlk zlo zhi zlp zll zlv) s.heap.size = A at hD hZ ⊢
  have hA : ∀ q : Nat, s.heap.size ≤ q → A q := fun q h => by rw [← hAe]; exact Or.inr h
  have hS : va_S A s.heap s.heap [] := va_S.rf
  have hP : va_P (dC, dI) vwCl (w1 h a b cI cJ f g zt zs zc zso znu zty zhd zpa zch zlk zlo zhi zlp zll zlv) s.heap := hP
  have hin0 : ∀ w ∈ wsX10, w ∈ wsX1_consumed := by decide +kernel
  have fl21 := hts (.fieldLink RX1 21 "MessageReaderModel" "thrown" "I") (by decide +kernel)
  have fl37 := hts (.fieldLink RX1 37 "MessageReaderModel" "consumed" "I") (by decide +kernel)
  have hl := lv_entry ([.ref h]) (n := 1) (Nat.le_of_ble_eq_true rfl)
  rw [lg_entry_eq]
  generalize (lg_sl ([.ref h]) ++ List.replicate (1 - (lg_sl ([.ref h])).length) Slot.unset).toArray = ls at hl ⊢
  have hl : lv_has ls 1 [(0, .ref h)] := hl
  refine lv_aload_n hx hb dX1_consumed_0 rfl (lv_at hl 0 rfl) ?_
  refine lv_iconst (v := 0) hx hb dX1_consumed_1 (by decide) ?_
  refine va_put (D := (dC, dI)) (ci := 1) (v := .int 0) (ty := .int) (C := RX1) (T := TX1) (N := 17) hx hb hts hin0 tyX1 tyX1_ok nmX1 hown hK hP hD hS 0 rfl rfl 0 (by decide) fl21 (fun _ h9 => h9) rfl (by decide +kernel) rfl rfl (Nat.le_of_ble_eq_true rfl) dX1_consumed_2 (fun H locs hP hD hS => ?_)
  have hP : va_P (dC, dI) vwCl (w1 h a b cI cJ f g 0 zs zc zso znu zty zhd zpa zch zlk zlo zhi zlp zll zlv) H := hP
  have hD : va_D A (w1 h a b cI cJ f g 0 zs zc zso znu zty zhd zpa zch zlk zlo zhi zlp zll zlv) := hD
  refine lv_aload_n hx hb dX1_consumed_5 rfl (lv_at hl 0 rfl) ?_
  refine va_get (D := (dC, dI)) (ci := 1) (v := .int zc) (C := RX1) (T := TX1) (N := 17) hx hb hts hin0 hown hK hP 0 rfl rfl 3 (by decide) fl37 (fun _ h9 => h9) rfl dX1_consumed_6 ?_
  have hP9 : va_P (dC, dI) vwCl ((fun (_ : Unit) => w1 h a b cI cJ f g 0 zs zc zso znu zty zhd zpa zch zlk zlo zhi zlp zll zlv) (())) H := hP
  have hD9 : va_D A ((fun (_ : Unit) => w1 h a b cI cJ f g 0 zs zc zso znu zty zhd zpa zch zlk zlo zhi zlp zll zlv) (())) := hD
  exact W.iret (v := zc) hx hb hr (fun t ht hW => ⟨⟨zc, (), rfl, rfl, by rw [ht]; exact hP9, va_K.moved hW.alike hK, hD9⟩, hS.F ht⟩) hS.2.2 dX1_consumed_9
def fT (t s k : Int32) : Int32 := if t = 0 then (if s = 0 then t else k) else t
set_option maxHeartbeats 4000000 in
set_option maxRecDepth 100000 in
theorem c_X1_fails (l : Launch) (dC : Nat → ClassId) (dI : Nat → Nat → Nat) (tk tw : Nat) (h a b : Nat) (cI cJ : ClassId) (sz : Nat) (f : Nat → Int32) (g : Nat → Int64) (zt : Int32) (zs : Int32) (zc : Int32) (zso : Int32) (znu : Int64) (zty : Int32) (zhd : Int32) (zpa : Int64) (zch : Int64) (zlk : Int32) (zlo : Int32) (zhi : Int32) (zlp : Int32) (zll : Int32) (zlv : Int32) (s9 k9 : Int32) : Met l yX1_fails wsX1_fails ({ frames := 0, cells := 0, slots := 0, locals := 0 }) (va_Pc [.ref h, .int s9, .int k9] (pr dC dI (t1 cI cJ) (w1 h a b cI cJ f g zt zs zc zso znu zty zhd zpa zch zlk zlo zhi zlp zll zlv) sz tk tw)) (va_Qi (fun (r : Int32) (u : Int32) => u = fT zt s9 k9 ∧ r = (if fT zt s9 k9 ≤ 0 then 0 else 1)) (fun (u : Int32) => po dC dI (t1 cI cJ) (va_A (w1 h a b cI cJ f g zt zs zc zso znu zty zhd zpa zch zlk zlo zhi zlp zll zlv) sz) (w1 h a b cI cJ f g u zs zc zso znu zty zhd zpa zch zlk zlo zhi zlp zll zlv)) (va_A (w1 h a b cI cJ f g zt zs zc zso znu zty zhd zpa zch zlk zlo zhi zlp zll zlv) sz)) 0 0 (va_A (w1 h a b cI cJ f g zt zs zc zso znu zty zhd zpa zch zlk zlo zhi zlp zll zlv) sz) := by
  refine Met.ofW (cc := cX1_fails) (maxL := 3) (ret := (some .boolean)) (by decide) rfl ?_
  intro p e s m args below meth c s₁ Bd hml hv
  obtain ⟨rfl, hsz, hP, hK, hD0, hZ⟩ := hv
  have hx := Bd.exec
  have hb := Bd.bytes
  have hr := Bd.returns
  have hts := atoms_spec (ws := wsX1_fails) Bd.pre
  have hown : s.vm.findClass RX1 = some m.cls := findClass_of_methodNamed Bd.named
  have hlocks := Bd.notSynchronized
  subst hsz
  have hD := hD0.self (sz := s.heap.size)
  generalize hAe : va_A (w1 h a b cI cJ f g zt zs zc zso znu zty zhd zpa zch zlk zlo zhi zlp zll zlv) s.heap.size = A at hD hZ ⊢
  have hA : ∀ q : Nat, s.heap.size ≤ q → A q := fun q h => by rw [← hAe]; exact Or.inr h
  have hS : va_S A s.heap s.heap [] := va_S.rf
  have hP : va_P (dC, dI) vwCl (w1 h a b cI cJ f g zt zs zc zso znu zty zhd zpa zch zlk zlo zhi zlp zll zlv) s.heap := hP
  have hin0 : ∀ w ∈ wsX10, w ∈ wsX1_fails := by decide +kernel
  have fl21 := hts (.fieldLink RX1 21 "MessageReaderModel" "thrown" "I") (by decide +kernel)
  have hl := lv_entry ([.ref h, .int s9, .int k9]) (n := 3) (Nat.le_of_ble_eq_true rfl)
  rw [lg_entry_eq]
  generalize (lg_sl ([.ref h, .int s9, .int k9]) ++ List.replicate (3 - (lg_sl ([.ref h, .int s9, .int k9])).length) Slot.unset).toArray = ls at hl ⊢
  have hl : lv_has ls 3 [(0, .ref h), (1, .int s9), (2, .int k9)] := hl
  refine lv_aload_n hx hb dX1_fails_0 rfl (lv_at hl 0 rfl) ?_
  refine va_get (D := (dC, dI)) (ci := 1) (v := .int zt) (C := RX1) (T := TX1) (N := 17) hx hb hts hin0 hown hK hP 0 rfl rfl 0 (by decide) fl21 (fun _ h9 => h9) rfl dX1_fails_1 ?_
  refine lv_if_ne (tgt := 16) hx hb dX1_fails_4 (by decide) (fun c_1 => ?_) (fun c_1 => ?_)
  · skip
    refine lv_aload_n hx hb dX1_fails_16 rfl (lv_at hl 0 rfl) ?_
    refine va_get (D := (dC, dI)) (ci := 1) (v := .int zt) (C := RX1) (T := TX1) (N := 17) hx hb hts hin0 hown hK hP 0 rfl rfl 0 (by decide) fl21 (fun _ h9 => h9) rfl dX1_fails_17 ?_
    refine lv_if_le (tgt := 27) hx hb dX1_fails_20 (by decide) (fun c_2 => ?_) (fun c_2 => ?_)
    · skip
      refine lv_iconst (v := 0) hx hb dX1_fails_27 (by decide) ?_
      have hP9 : va_P (dC, dI) vwCl ((fun (u : Int32) => w1 h a b cI cJ f g u zs zc zso znu zty zhd zpa zch zlk zlo zhi zlp zll zlv) (zt)) s.heap := hP
      have hD9 : va_D A ((fun (u : Int32) => w1 h a b cI cJ f g u zs zc zso znu zty zhd zpa zch zlk zlo zhi zlp zll zlv) (zt)) := hD
      exact W.zret (v := 0) hx hb hr (by first | rfl | decide) (fun t ht hW => ⟨⟨0, zt, rfl, (by have z9 : fT zt s9 k9 = zt := (by unfold fT; rw [if_neg c_1]); exact ⟨z9.symm, by rw [z9, if_pos c_2]⟩), by rw [ht]; exact hP9, va_K.moved hW.alike hK, hD9⟩, hS.F ht⟩) hS.2.2 dX1_fails_28
    · skip
      refine lv_iconst (v := 1) hx hb dX1_fails_23 (by decide) ?_
      refine lv_goto (tgt := 28) hx hb dX1_fails_24 (by decide) ?_
      have hP9 : va_P (dC, dI) vwCl ((fun (u : Int32) => w1 h a b cI cJ f g u zs zc zso znu zty zhd zpa zch zlk zlo zhi zlp zll zlv) (zt)) s.heap := hP
      have hD9 : va_D A ((fun (u : Int32) => w1 h a b cI cJ f g u zs zc zso znu zty zhd zpa zch zlk zlo zhi zlp zll zlv) (zt)) := hD
      exact W.zret (v := 1) hx hb hr (by first | rfl | decide) (fun t ht hW => ⟨⟨1, zt, rfl, (by have z9 : fT zt s9 k9 = zt := (by unfold fT; rw [if_neg c_1]); exact ⟨z9.symm, by rw [z9, if_neg c_2]⟩), by rw [ht]; exact hP9, va_K.moved hW.alike hK, hD9⟩, hS.F ht⟩) hS.2.2 dX1_fails_28
  · skip
    refine lv_iload_n hx hb dX1_fails_7 rfl (lv_at hl 1 rfl) ?_
    refine lv_if_eq (tgt := 16) hx hb dX1_fails_8 (by decide) (fun c_3 => ?_) (fun c_3 => ?_)
    · skip
      refine lv_aload_n hx hb dX1_fails_16 rfl (lv_at hl 0 rfl) ?_
      refine va_get (D := (dC, dI)) (ci := 1) (v := .int zt) (C := RX1) (T := TX1) (N := 17) hx hb hts hin0 hown hK hP 0 rfl rfl 0 (by decide) fl21 (fun _ h9 => h9) rfl dX1_fails_17 ?_
      refine lv_if_le (tgt := 27) hx hb dX1_fails_20 (by decide) (fun c_4 => ?_) (fun c_4 => ?_)
      · skip
        refine lv_iconst (v := 0) hx hb dX1_fails_27 (by decide) ?_
        have hP9 : va_P (dC, dI) vwCl ((fun (u : Int32) => w1 h a b cI cJ f g u zs zc zso znu zty zhd zpa zch zlk zlo zhi zlp zll zlv) (zt)) s.heap := hP
        have hD9 : va_D A ((fun (u : Int32) => w1 h a b cI cJ f g u zs zc zso znu zty zhd zpa zch zlk zlo zhi zlp zll zlv) (zt)) := hD
        exact W.zret (v := 0) hx hb hr (by first | rfl | decide) (fun t ht hW => ⟨⟨0, zt, rfl, (by have z9 : fT zt s9 k9 = zt := (by unfold fT; rw [if_pos c_1, if_pos c_3]); exact ⟨z9.symm, by rw [z9, if_pos c_4]⟩), by rw [ht]; exact hP9, va_K.moved hW.alike hK, hD9⟩, hS.F ht⟩) hS.2.2 dX1_fails_28
      · skip
        refine lv_iconst (v := 1) hx hb dX1_fails_23 (by decide) ?_
        refine lv_goto (tgt := 28) hx hb dX1_fails_24 (by decide) ?_
        have hP9 : va_P (dC, dI) vwCl ((fun (u : Int32) => w1 h a b cI cJ f g u zs zc zso znu zty zhd zpa zch zlk zlo zhi zlp zll zlv) (zt)) s.heap := hP
        have hD9 : va_D A ((fun (u : Int32) => w1 h a b cI cJ f g u zs zc zso znu zty zhd zpa zch zlk zlo zhi zlp zll zlv) (zt)) := hD
        exact W.zret (v := 1) hx hb hr (by first | rfl | decide) (fun t ht hW => ⟨⟨1, zt, rfl, (by have z9 : fT zt s9 k9 = zt := (by unfold fT; rw [if_pos c_1, if_pos c_3]); exact ⟨z9.symm, by rw [z9, if_neg c_4]⟩), by rw [ht]; exact hP9, va_K.moved hW.alike hK, hD9⟩, hS.F ht⟩) hS.2.2 dX1_fails_28
    · skip
      refine lv_aload_n hx hb dX1_fails_11 rfl (lv_at hl 0 rfl) ?_
      refine lv_iload_n hx hb dX1_fails_12 rfl (lv_at hl 2 rfl) ?_
      refine va_put (D := (dC, dI)) (ci := 1) (v := .int k9) (ty := .int) (C := RX1) (T := TX1) (N := 17) hx hb hts hin0 tyX1 tyX1_ok nmX1 hown hK hP hD hS 0 rfl rfl 0 (by decide) fl21 (fun _ h9 => h9) rfl (by decide +kernel) rfl rfl (Nat.le_of_ble_eq_true rfl) dX1_fails_13 (fun H locs hP hD hS => ?_)
      have hP : va_P (dC, dI) vwCl (w1 h a b cI cJ f g k9 zs zc zso znu zty zhd zpa zch zlk zlo zhi zlp zll zlv) H := hP
      have hD : va_D A (w1 h a b cI cJ f g k9 zs zc zso znu zty zhd zpa zch zlk zlo zhi zlp zll zlv) := hD
      refine lv_aload_n hx hb dX1_fails_16 rfl (lv_at hl 0 rfl) ?_
      refine va_get (D := (dC, dI)) (ci := 1) (v := .int k9) (C := RX1) (T := TX1) (N := 17) hx hb hts hin0 hown hK hP 0 rfl rfl 0 (by decide) fl21 (fun _ h9 => h9) rfl dX1_fails_17 ?_
      refine lv_if_le (tgt := 27) hx hb dX1_fails_20 (by decide) (fun c_5 => ?_) (fun c_5 => ?_)
      · skip
        refine lv_iconst (v := 0) hx hb dX1_fails_27 (by decide) ?_
        have hP9 : va_P (dC, dI) vwCl ((fun (u : Int32) => w1 h a b cI cJ f g u zs zc zso znu zty zhd zpa zch zlk zlo zhi zlp zll zlv) (k9)) H := hP
        have hD9 : va_D A ((fun (u : Int32) => w1 h a b cI cJ f g u zs zc zso znu zty zhd zpa zch zlk zlo zhi zlp zll zlv) (k9)) := hD
        exact W.zret (v := 0) hx hb hr (by first | rfl | decide) (fun t ht hW => ⟨⟨0, k9, rfl, (by have z9 : fT zt s9 k9 = k9 := (by unfold fT; rw [if_pos c_1, if_neg c_3]); exact ⟨z9.symm, by rw [z9, if_pos c_5]⟩), by rw [ht]; exact hP9, va_K.moved hW.alike hK, hD9⟩, hS.F ht⟩) hS.2.2 dX1_fails_28
      · skip
        refine lv_iconst (v := 1) hx hb dX1_fails_23 (by decide) ?_
        refine lv_goto (tgt := 28) hx hb dX1_fails_24 (by decide) ?_
        have hP9 : va_P (dC, dI) vwCl ((fun (u : Int32) => w1 h a b cI cJ f g u zs zc zso znu zty zhd zpa zch zlk zlo zhi zlp zll zlv) (k9)) H := hP
        have hD9 : va_D A ((fun (u : Int32) => w1 h a b cI cJ f g u zs zc zso znu zty zhd zpa zch zlk zlo zhi zlp zll zlv) (k9)) := hD
        exact W.zret (v := 1) hx hb hr (by first | rfl | decide) (fun t ht hW => ⟨⟨1, k9, rfl, (by have z9 : fT zt s9 k9 = k9 := (by unfold fT; rw [if_pos c_1, if_neg c_3]); exact ⟨z9.symm, by rw [z9, if_neg c_5]⟩), by rw [ht]; exact hP9, va_K.moved hW.alike hK, hD9⟩, hS.F ht⟩) hS.2.2 dX1_fails_28
def bm (x : Int64) (i : Nat) : Int32 := ((x >>> ((8 * nI i).toInt64 &&& 63)) &&& 255).toInt32
def apM (f : Nat → Int32) (n : Nat) (x : Int64) : Nat → Nat → Int32
  | 0 => f
  | i + 1 => apM (upd f n (bm x i)) (n + 1) x i
set_option maxHeartbeats 4000000 in
set_option maxRecDepth 100000 in
theorem c_X1_write (l : Launch) (dC : Nat → ClassId) (dI : Nat → Nat → Nat) (tk tw : Nat) (h a b : Nat) (cI cJ : ClassId) (sz : Nat) (f : Nat → Int32) (g : Nat → Int64) (zt : Int32) (zc : Int32) (zso : Int32) (znu : Int64) (zty : Int32) (zhd : Int32) (zpa : Int64) (zch : Int64) (zlk : Int32) (zlo : Int32) (zhi : Int32) (zlp : Int32) (zll : Int32) (zlv : Int32) (n9 k9 : Nat) (x9 : Int64) (h9 : n9 + k9 ≤ 4096) : Met l yX1_write wsX1_write ({ frames := 0, cells := 0, slots := 0, locals := 0 }) (va_Pc [.ref h, .long x9, .int (nI k9)] (pr dC dI (t1 cI cJ) (w1 h a b cI cJ f g zt (nI n9) zc zso znu zty zhd zpa zch zlk zlo zhi zlp zll zlv) sz tk tw)) (va_Qv (fun (_ : Unit) => True) (fun (_ : Unit) => po dC dI (t1 cI cJ) (va_A (w1 h a b cI cJ f g zt (nI n9) zc zso znu zty zhd zpa zch zlk zlo zhi zlp zll zlv) sz) (w1 h a b cI cJ (apM f n9 x9 k9) g zt (nI (n9 + k9)) zc zso znu zty zhd zpa zch zlk zlo zhi zlp zll zlv)) (va_A (w1 h a b cI cJ f g zt (nI n9) zc zso znu zty zhd zpa zch zlk zlo zhi zlp zll zlv) sz)) 0 0 (va_A (w1 h a b cI cJ f g zt (nI n9) zc zso znu zty zhd zpa zch zlk zlo zhi zlp zll zlv) sz) := by
  refine Met.ofW (cc := cX1_write) (maxL := 5) (ret := none) (by decide) rfl ?_
  intro p e s m args below meth c s₁ Bd hml hv
  obtain ⟨rfl, hsz, hP, hK, hD0, hZ⟩ := hv
  have hx := Bd.exec
  have hb := Bd.bytes
  have hr := Bd.returns
  have hts := atoms_spec (ws := wsX1_write) Bd.pre
  have hown : s.vm.findClass RX1 = some m.cls := findClass_of_methodNamed Bd.named
  have hlocks := Bd.notSynchronized
  subst hsz
  have hD := hD0.self (sz := s.heap.size)
  generalize hAe : va_A (w1 h a b cI cJ f g zt (nI n9) zc zso znu zty zhd zpa zch zlk zlo zhi zlp zll zlv) s.heap.size = A at hD hZ ⊢
  have hA : ∀ q : Nat, s.heap.size ≤ q → A q := fun q h => by rw [← hAe]; exact Or.inr h
  have hS : va_S A s.heap s.heap [] := va_S.rf
  have hP : va_P (dC, dI) vwCl (w1 h a b cI cJ f g zt (nI n9) zc zso znu zty zhd zpa zch zlk zlo zhi zlp zll zlv) s.heap := hP
  have hin0 : ∀ w ∈ wsX10, w ∈ wsX1_write := by decide +kernel
  have fl7 := hts (.fieldLink RX1 7 "MessageReaderModel" "bytes" "[I") (by decide +kernel)
  have fl28 := hts (.fieldLink RX1 28 "MessageReaderModel" "size" "I") (by decide +kernel)
  have hl := lv_entry ([.ref h, .long x9, .int (nI k9)]) (n := 5) (Nat.le_of_ble_eq_true rfl)
  rw [lg_entry_eq]
  generalize (lg_sl ([.ref h, .long x9, .int (nI k9)]) ++ List.replicate (5 - (lg_sl ([.ref h, .long x9, .int (nI k9)])).length) Slot.unset).toArray = ls at hl ⊢
  have hl : lv_has ls 5 [(0, .ref h), (1, .long x9), (3, .int (nI k9))] := hl
  refine lv_iload_n hx hb dX1_write_0 rfl (lv_at hl 2 rfl) ?_
  refine lv_iconst (v := 1) hx hb dX1_write_1 (by decide) ?_
  refine lv_isub hx hb dX1_write_2 ?_
  refine lv_istore (lv' := [(4, .int ((nI k9) - 1)), (0, .ref h), (1, .long x9), (3, .int (nI k9))]) hx hb dX1_write_3 hl (by decide) rfl (fun ls hl => ?_)
  have loop5 : ∀ (fz : Nat) (q m1 : Nat) (f1 : Nat → Int32), q < fz → m1 + q = n9 + k9 → apM f1 m1 x9 q = apM f n9 x9 k9 → ∀ (H : Heap) (locs : List Loc), va_P (dC, dI) vwCl (w1 h a b cI cJ f1 g zt (nI m1) zc zso znu zty zhd zpa zch zlk zlo zhi zlp zll zlv) H → va_D A (w1 h a b cI cJ f1 g zt (nI m1) zc zso znu zty zhd zpa zch zlk zlo zhi zlp zll zlv) → va_S A s.heap H locs → ∀ ls : Array Slot, lv_has ls 5 [(0, .ref h), (1, .long x9), (3, .int (nI k9)), (4, .int (nI q - 1))] → W p l e (headSpec wsX1_write ({ frames := 0, cells := 0, slots := 0, locals := 0 })).room s m ([.ref h, .long x9, .int (nI k9)]).toArray below meth c H locs 0 0 (MQ below (va_Qv (fun (_ : Unit) => True) (fun (_ : Unit) => po dC dI (t1 cI cJ) A (w1 h a b cI cJ (apM f n9 x9 k9) g zt (nI (n9 + k9)) zc zso znu zty zhd zpa zch zlk zlo zhi zlp zll zlv)) A) ([.ref h, .long x9, .int (nI k9)]).toArray s 0 0 A) (F0 m 5 ls []) := by
    intro fz
    induction fz with
    | zero =>
      intro q m1 f1 hq hm hf H locs hP hD hS ls hl
      exact absurd hq (Nat.not_lt_zero _)
    | succ fz ih =>
      intro q m1 f1 hq hm hf H locs hP hD hS ls hl
      refine lv_iload hx hb dX1_write_5 (lv_at hl 3 rfl) ?_
      refine lv_if_lt (tgt := 47) hx hb dX1_write_7 (by decide) (fun c_1 => ?_) (fun c_1 => ?_)
      · skip
        have hq0 : q = 0 := Nat.eq_zero_of_not_pos (fun z => by obtain ⟨d, hc⟩ : ∃ d, q = d + 1 := ⟨q - 1, by omega⟩; rw [hc, nI_pred] at c_1; exact nI_pos (by omega) c_1)
        subst hq0
        have e1 : f1 = apM f n9 x9 k9 := hf
        have e2 : m1 = n9 + k9 := by omega
        have hP9 : va_P (dC, dI) vwCl ((fun (_ : Unit) => w1 h a b cI cJ (apM f n9 x9 k9) g zt (nI (n9 + k9)) zc zso znu zty zhd zpa zch zlk zlo zhi zlp zll zlv) (())) H := by rw [← e1, ← e2]; exact hP
        have hD9 : va_D A ((fun (_ : Unit) => w1 h a b cI cJ (apM f n9 x9 k9) g zt (nI (n9 + k9)) zc zso znu zty zhd zpa zch zlk zlo zhi zlp zll zlv) (())) := by rw [← e1, ← e2]; exact hD
        exact W.vret hx hb hr (fun t ht hW => ⟨⟨(), rfl, trivial, by rw [ht]; exact hP9, va_K.moved hW.alike hK, hD9⟩, hS.F ht⟩) hS.2.2 dX1_write_47
      · skip
        obtain ⟨d, hc⟩ : ∃ d, q = d + 1 := ⟨q - 1, by have z : 0 < q := Nat.pos_of_ne_zero (fun z => c_1 (by rw [z]; decide)); omega⟩
        have hcd : nI q - 1 = nI d := by rw [hc]; exact nI_pred d
        refine lv_aload_n hx hb dX1_write_10 rfl (lv_at hl 0 rfl) ?_
        refine va_get (D := (dC, dI)) (ci := 1) (v := .ref a) (C := RX1) (T := TX1) (N := 17) hx hb hts hin0 hown hK hP 0 rfl rfl 1 (by decide) fl7 (fun _ h9 => h9) rfl dX1_write_11 ?_
        refine lv_aload_n hx hb dX1_write_14 rfl (lv_at hl 0 rfl) ?_
        refine va_get (D := (dC, dI)) (ci := 1) (v := .int (nI m1)) (C := RX1) (T := TX1) (N := 17) hx hb hts hin0 hown hK hP 0 rfl rfl 2 (by decide) fl28 (fun _ h9 => h9) rfl dX1_write_15 ?_
        refine lv_lload_n hx hb dX1_write_18 rfl (lv_at hl 1 rfl) ?_
        refine lv_bipush (v := 8) hx hb dX1_write_19 (by decide) ?_
        refine lv_iload hx hb dX1_write_21 (lv_at hl 3 rfl) ?_
        refine lv_imul hx hb dX1_write_23 ?_
        have e_2 : (8 * (nI q - 1) : Int32) = 8 * nI d := by rw [hcd]
        rw [e_2]
        refine lv_lshr hx hb dX1_write_24 rfl ?_
        refine lv_ldc2 (v := 255) hx hb hown (hts (.constantLong RX1 31 (255)) (by decide +kernel)) dX1_write_25 ?_
        refine lv_land hx hb dX1_write_28 ?_
        refine lv_l2i hx hb dX1_write_29 rfl ?_
        refine va_iast hx hb hK hP hD hS 1 0 rfl rfl (vp_in_nI (by omega) (by decide)) dX1_write_30 (fun H locs hP hD hS => ?_)
        have hP : va_P (dC, dI) vwCl (w1 h a b cI cJ (upd f1 (nI m1).toNatClampNeg (((x9 >>> ((8 * nI d).toInt64 &&& 63)) &&& 255).toInt32)) g zt (nI m1) zc zso znu zty zhd zpa zch zlk zlo zhi zlp zll zlv) H := hP
        have hD : va_D A (w1 h a b cI cJ (upd f1 (nI m1).toNatClampNeg (((x9 >>> ((8 * nI d).toInt64 &&& 63)) &&& 255).toInt32)) g zt (nI m1) zc zso znu zty zhd zpa zch zlk zlo zhi zlp zll zlv) := hD
        refine lv_aload_n hx hb dX1_write_31 rfl (lv_at hl 0 rfl) ?_
        refine lv_dup hx hb dX1_write_32 rfl ?_
        refine va_get (D := (dC, dI)) (ci := 1) (v := .int (nI m1)) (C := RX1) (T := TX1) (N := 17) hx hb hts hin0 hown hK hP 0 rfl rfl 2 (by decide) fl28 (fun _ h9 => h9) rfl dX1_write_33 ?_
        refine lv_iconst (v := 1) hx hb dX1_write_36 (by decide) ?_
        refine lv_iadd hx hb dX1_write_37 ?_
        have e_3 : ((nI m1) + 1 : Int32) = nI (m1 + 1) := nI_1 m1
        rw [e_3]
        refine va_put (D := (dC, dI)) (ci := 1) (v := .int (nI (m1 + 1))) (ty := .int) (C := RX1) (T := TX1) (N := 17) hx hb hts hin0 tyX1 tyX1_ok nmX1 hown hK hP hD hS 0 rfl rfl 2 (by decide) fl28 (fun _ h9 => h9) rfl (by decide +kernel) rfl rfl (Nat.le_of_ble_eq_true rfl) dX1_write_38 (fun H locs hP hD hS => ?_)
        have hP : va_P (dC, dI) vwCl (w1 h a b cI cJ (upd f1 (nI m1).toNatClampNeg (((x9 >>> ((8 * nI d).toInt64 &&& 63)) &&& 255).toInt32)) g zt (nI (m1 + 1)) zc zso znu zty zhd zpa zch zlk zlo zhi zlp zll zlv) H := hP
        have hD : va_D A (w1 h a b cI cJ (upd f1 (nI m1).toNatClampNeg (((x9 >>> ((8 * nI d).toInt64 &&& 63)) &&& 255).toInt32)) g zt (nI (m1 + 1)) zc zso znu zty zhd zpa zch zlk zlo zhi zlp zll zlv) := hD
        refine lv_iinc (v := nI d - 1) (lv' := [(4, .int (nI d - 1)), (0, .ref h), (1, .long x9), (3, .int (nI k9))]) hx hb dX1_write_41 hl (k := 3) rfl (by rw [hcd, Int32.sub_eq_add_neg]; rfl) (by decide) rfl (fun ls hl => ?_)
        refine lv_goto (tgt := 5) hx hb dX1_write_44 (by decide) ?_
        exact ih d (m1 + 1) _ (by omega) (by omega) (by rw [nI_clamp (by omega)]; rw [hc] at hf; exact hf) _ _ hP hD hS ls (lv_sub hl [1, 2, 3, 0] rfl)
  exact loop5 (k9 + 1) k9 n9 f (by omega) rfl rfl _ _ hP hD hS ls (lv_sub hl [1, 2, 3, 0] rfl)
end
section
theorem zz_last : True := trivial
end
