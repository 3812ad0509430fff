section
-- ===== PART A: goes FIRST, ahead of the names: the tables' words, and 'selects' of the private methods out of them =====
/-- a private method of a class that the tables say can be made, by its rows of tables_1 -/
def lw_okq (q : MethodName × Nat) : Prop := (q.1.cls ≠ "java/lang/invoke/MethodHandle" ∧ q.1.cls ≠ "java/lang/invoke/VarHandle") ∧ Cond.instantiable q.1.cls q.2 ∈ tables_1 ∧ Cond.privateMethod q.1 ∈ tables_1 ∧ Cond.instanceMethod q.1 ∈ tables_1
theorem lw_p0 : lw_okq (⟨"LineCoder$TenReceiver", "isAtMark", "()Z"⟩, 9) := ⟨⟨by decide +kernel, by decide +kernel⟩, List.mem_of_getElem? (i := 44) (by decide +kernel), List.mem_of_getElem? (i := 163) (by decide +kernel), List.mem_of_getElem? (i := 164) (by decide +kernel)⟩
theorem lw_p1 : lw_okq (⟨"LineCoder$TenReceiver", "takeTen", "()I"⟩, 9) := ⟨⟨by decide +kernel, by decide +kernel⟩, List.mem_of_getElem? (i := 44) (by decide +kernel), List.mem_of_getElem? (i := 193) (by decide +kernel), List.mem_of_getElem? (i := 194) (by decide +kernel)⟩
theorem lw_p2 : lw_okq (⟨"LineCoder$TenReceiver", "judge", "(IZ)I"⟩, 9) := ⟨⟨by decide +kernel, by decide +kernel⟩, List.mem_of_getElem? (i := 44) (by decide +kernel), List.mem_of_getElem? (i := 240) (by decide +kernel), List.mem_of_getElem? (i := 241) (by decide +kernel)⟩
theorem lw_p3 : lw_okq (⟨"LineCoder$TenReceiver", "mark", "()V"⟩, 9) := ⟨⟨by decide +kernel, by decide +kernel⟩, List.mem_of_getElem? (i := 44) (by decide +kernel), List.mem_of_getElem? (i := 244) (by decide +kernel), List.mem_of_getElem? (i := 245) (by decide +kernel)⟩
theorem lw_p4 : lw_okq (⟨"LineCoder$TenReceiver", "praise", "()V"⟩, 9) := ⟨⟨by decide +kernel, by decide +kernel⟩, List.mem_of_getElem? (i := 44) (by decide +kernel), List.mem_of_getElem? (i := 248) (by decide +kernel), List.mem_of_getElem? (i := 249) (by decide +kernel)⟩
theorem lw_p5 : lw_okq (⟨"LineCoder$WordReceiver", "takeWord", "()V"⟩, 9) := ⟨⟨by decide +kernel, by decide +kernel⟩, List.mem_of_getElem? (i := 95) (by decide +kernel), List.mem_of_getElem? (i := 268) (by decide +kernel), List.mem_of_getElem? (i := 269) (by decide +kernel)⟩
theorem lw_p6 : lw_okq (⟨"LineCoder$Stirrer", "turning", "()I"⟩, 1) := ⟨⟨by decide +kernel, by decide +kernel⟩, List.mem_of_getElem? (i := 101) (by decide +kernel), List.mem_of_getElem? (i := 277) (by decide +kernel), List.mem_of_getElem? (i := 278) (by decide +kernel)⟩
theorem lw_p7 : lw_okq (⟨"LineCoder$Stirrer", "remember", "(I)V"⟩, 1) := ⟨⟨by decide +kernel, by decide +kernel⟩, List.mem_of_getElem? (i := 101) (by decide +kernel), List.mem_of_getElem? (i := 281) (by decide +kernel), List.mem_of_getElem? (i := 282) (by decide +kernel)⟩
theorem lw_p8 : lw_okq (⟨"LineCoder$WordReceiver", "watch", "(Z)V"⟩, 9) := ⟨⟨by decide +kernel, by decide +kernel⟩, List.mem_of_getElem? (i := 95) (by decide +kernel), List.mem_of_getElem? (i := 285) (by decide +kernel), List.mem_of_getElem? (i := 286) (by decide +kernel)⟩
theorem lw_p9 : lw_okq (⟨"LineCoder$WordReceiver", "gain", "()V"⟩, 9) := ⟨⟨by decide +kernel, by decide +kernel⟩, List.mem_of_getElem? (i := 95) (by decide +kernel), List.mem_of_getElem? (i := 291) (by decide +kernel), List.mem_of_getElem? (i := 292) (by decide +kernel)⟩
theorem lw_p10 : lw_okq (⟨"java/lang/Throwable", "fillInStackTrace", "(I)Ljava/lang/Throwable;"⟩, 6) := ⟨⟨by decide +kernel, by decide +kernel⟩, List.mem_of_getElem? (i := 391) (by decide +kernel), List.mem_of_getElem? (i := 389) (by decide +kernel), List.mem_of_getElem? (i := 390) (by decide +kernel)⟩
theorem lw_p11 : lw_okq (⟨"LineCoder", "lineOf", "(I)LLineCoder$Line;"⟩, 6) := ⟨⟨by decide +kernel, by decide +kernel⟩, List.mem_of_getElem? (i := 19) (by decide +kernel), List.mem_of_getElem? (i := 488) (by decide +kernel), List.mem_of_getElem? (i := 489) (by decide +kernel)⟩
theorem lw_p12 : lw_okq (⟨"LineCoderModel", "make", "(IZ)I"⟩, 23) := ⟨⟨by decide +kernel, by decide +kernel⟩, List.mem_of_getElem? (i := 601) (by decide +kernel), List.mem_of_getElem? (i := 610) (by decide +kernel), List.mem_of_getElem? (i := 611) (by decide +kernel)⟩
theorem lw_p13 : lw_okq (⟨"LineCoderModel", "empty", "()V"⟩, 23) := ⟨⟨by decide +kernel, by decide +kernel⟩, List.mem_of_getElem? (i := 601) (by decide +kernel), List.mem_of_getElem? (i := 620) (by decide +kernel), List.mem_of_getElem? (i := 621) (by decide +kernel)⟩
theorem lw_p14 : lw_okq (⟨"LineCoderModel", "refused", "(I)Z"⟩, 23) := ⟨⟨by decide +kernel, by decide +kernel⟩, List.mem_of_getElem? (i := 601) (by decide +kernel), List.mem_of_getElem? (i := 707) (by decide +kernel), List.mem_of_getElem? (i := 708) (by decide +kernel)⟩
theorem lw_p15 : lw_okq (⟨"LineCoderModel", "append", "(II)V"⟩, 23) := ⟨⟨by decide +kernel, by decide +kernel⟩, List.mem_of_getElem? (i := 601) (by decide +kernel), List.mem_of_getElem? (i := 722) (by decide +kernel), List.mem_of_getElem? (i := 723) (by decide +kernel)⟩
def lw_privs_1 : List (MethodName × Nat) := [(⟨"LineCoder$TenReceiver", "isAtMark", "()Z"⟩, 9), (⟨"LineCoder$TenReceiver", "takeTen", "()I"⟩, 9), (⟨"LineCoder$TenReceiver", "judge", "(IZ)I"⟩, 9), (⟨"LineCoder$TenReceiver", "mark", "()V"⟩, 9), (⟨"LineCoder$TenReceiver", "praise", "()V"⟩, 9), (⟨"LineCoder$WordReceiver", "takeWord", "()V"⟩, 9), (⟨"LineCoder$Stirrer", "turning", "()I"⟩, 1), (⟨"LineCoder$Stirrer", "remember", "(I)V"⟩, 1), (⟨"LineCoder$WordReceiver", "watch", "(Z)V"⟩, 9), (⟨"LineCoder$WordReceiver", "gain", "()V"⟩, 9), (⟨"java/lang/Throwable", "fillInStackTrace", "(I)Ljava/lang/Throwable;"⟩, 6), (⟨"LineCoder", "lineOf", "(I)LLineCoder$Line;"⟩, 6), (⟨"LineCoderModel", "make", "(IZ)I"⟩, 23), (⟨"LineCoderModel", "empty", "()V"⟩, 23), (⟨"LineCoderModel", "refused", "(I)Z"⟩, 23), (⟨"LineCoderModel", "append", "(II)V"⟩, 23)]
theorem lw_r1 : ∀ q ∈ lw_privs_1, lw_okq q := List.forall_mem_cons.mpr ⟨lw_p0, List.forall_mem_cons.mpr ⟨lw_p1, List.forall_mem_cons.mpr ⟨lw_p2, List.forall_mem_cons.mpr ⟨lw_p3, List.forall_mem_cons.mpr ⟨lw_p4, List.forall_mem_cons.mpr ⟨lw_p5, List.forall_mem_cons.mpr ⟨lw_p6, List.forall_mem_cons.mpr ⟨lw_p7, List.forall_mem_cons.mpr ⟨lw_p8, List.forall_mem_cons.mpr ⟨lw_p9, List.forall_mem_cons.mpr ⟨lw_p10, List.forall_mem_cons.mpr ⟨lw_p11, List.forall_mem_cons.mpr ⟨lw_p12, List.forall_mem_cons.mpr ⟨lw_p13, List.forall_mem_cons.mpr ⟨lw_p14, List.forall_mem_cons.mpr ⟨lw_p15, fun _ h => absurd h List.not_mem_nil⟩⟩⟩⟩⟩⟩⟩⟩⟩⟩⟩⟩⟩⟩⟩⟩
theorem lw_p16 : lw_okq (⟨"LineCoderModel", "bitsAt", "(II)I"⟩, 23) := ⟨⟨by decide +kernel, by decide +kernel⟩, List.mem_of_getElem? (i := 601) (by decide +kernel), List.mem_of_getElem? (i := 736) (by decide +kernel), List.mem_of_getElem? (i := 737) (by decide +kernel)⟩
theorem lw_p17 : lw_okq (⟨"LineCoderModel", "taken", "(I)I"⟩, 23) := ⟨⟨by decide +kernel, by decide +kernel⟩, List.mem_of_getElem? (i := 601) (by decide +kernel), List.mem_of_getElem? (i := 740) (by decide +kernel), List.mem_of_getElem? (i := 741) (by decide +kernel)⟩
theorem lw_p18 : lw_okq (⟨"LineCoderModel", "takeWord", "(I)V"⟩, 23) := ⟨⟨by decide +kernel, by decide +kernel⟩, List.mem_of_getElem? (i := 601) (by decide +kernel), List.mem_of_getElem? (i := 755) (by decide +kernel), List.mem_of_getElem? (i := 756) (by decide +kernel)⟩
theorem lw_p19 : lw_okq (⟨"LineCoderModel", "balance", "(I)I"⟩, 23) := ⟨⟨by decide +kernel, by decide +kernel⟩, List.mem_of_getElem? (i := 601) (by decide +kernel), List.mem_of_getElem? (i := 790) (by decide +kernel), List.mem_of_getElem? (i := 791) (by decide +kernel)⟩
theorem lw_p20 : lw_okq (⟨"LineCoderModel", "longest", "(I)I"⟩, 23) := ⟨⟨by decide +kernel, by decide +kernel⟩, List.mem_of_getElem? (i := 601) (by decide +kernel), List.mem_of_getElem? (i := 794) (by decide +kernel), List.mem_of_getElem? (i := 795) (by decide +kernel)⟩
def lw_privs_2 : List (MethodName × Nat) := [(⟨"LineCoderModel", "bitsAt", "(II)I"⟩, 23), (⟨"LineCoderModel", "taken", "(I)I"⟩, 23), (⟨"LineCoderModel", "takeWord", "(I)V"⟩, 23), (⟨"LineCoderModel", "balance", "(I)I"⟩, 23), (⟨"LineCoderModel", "longest", "(I)I"⟩, 23)]
theorem lw_r2 : ∀ q ∈ lw_privs_2, lw_okq q := List.forall_mem_cons.mpr ⟨lw_p16, List.forall_mem_cons.mpr ⟨lw_p17, List.forall_mem_cons.mpr ⟨lw_p18, List.forall_mem_cons.mpr ⟨lw_p19, List.forall_mem_cons.mpr ⟨lw_p20, fun _ h => absurd h List.not_mem_nil⟩⟩⟩⟩⟩
def lw_privs : List (MethodName × Nat) := lw_privs_1 ++ (lw_privs_2)
def lw_tbl : List Cond := k2_sels lw_privs ++ tables_1
theorem lw_privs_ok : ∀ q ∈ lw_privs, lw_okq q := by
  show ∀ q ∈ lw_privs_1 ++ (lw_privs_2), lw_okq q
  exact List.forall_mem_append.mpr ⟨lw_r1, lw_r2⟩
def T_L : u_T := fun k => match k with
  | 0 => ("LineCoder$Line", "bits", "[B", true)
  | 1 => ("LineCoder$Line", "size", "I", false)
  | _ => ("LineCoder$Line", "place", "I", false)
def ty_L : Nat → FieldType := fun k => match k with
  | 0 => .array .byte
  | 1 => .int
  | _ => .int
theorem nm_L : ∀ a, a < 3 → ∀ b, b < 3 → a ≠ b → (T_L a).2.1 ≠ (T_L b).2.1 := by decide +kernel
theorem ty_L_ok : ∀ k, k < 3 → parseFieldDescriptor (T_L k).2.2.1 = some (ty_L k) := by decide +kernel
def T_S : u_T := fun k => match k with
  | _ => ("LineCoder$Stirrer", "past", "J", false)
def ty_S : Nat → FieldType := fun k => match k with
  | _ => .long
theorem nm_S : ∀ a, a < 1 → ∀ b, b < 1 → a ≠ b → (T_S a).2.1 ≠ (T_S b).2.1 := by decide +kernel
theorem ty_S_ok : ∀ k, k < 1 → parseFieldDescriptor (T_S k).2.2.1 = some (ty_S k) := by decide +kernel
def T_T : u_T := fun k => match k with
  | 0 => ("LineCoder$Receiver", "line", "LLineCoder$Line;", true)
  | 1 => ("LineCoder$Receiver", "following", "Z", false)
  | 2 => ("LineCoder$Receiver", "slips", "I", false)
  | 3 => ("LineCoder$Receiver", "bads", "I", false)
  | 4 => ("LineCoder$Receiver", "wrongs", "I", false)
  | 5 => ("LineCoder$TenReceiver", "plus", "Z", false)
  | 6 => ("LineCoder$TenReceiver", "first", "Z", false)
  | 7 => ("LineCoder$TenReceiver", "marks", "I", false)
  | _ => ("LineCoder$TenReceiver", "row", "I", false)
def ty_T : Nat → FieldType := fun k => match k with
  | 0 => .object "LineCoder$Line"
  | 1 => .boolean
  | 2 => .int
  | 3 => .int
  | 4 => .int
  | 5 => .boolean
  | 6 => .boolean
  | 7 => .int
  | _ => .int
theorem nm_T : ∀ a, a < 9 → ∀ b, b < 9 → a ≠ b → (T_T a).2.1 ≠ (T_T b).2.1 := by decide +kernel
theorem ty_T_ok : ∀ k, k < 9 → parseFieldDescriptor (T_T k).2.2.1 = some (ty_T k) := by decide +kernel
def T_W : u_T := fun k => match k with
  | 0 => ("LineCoder$Receiver", "line", "LLineCoder$Line;", true)
  | 1 => ("LineCoder$Receiver", "following", "Z", false)
  | 2 => ("LineCoder$Receiver", "slips", "I", false)
  | 3 => ("LineCoder$Receiver", "bads", "I", false)
  | 4 => ("LineCoder$Receiver", "wrongs", "I", false)
  | 5 => ("LineCoder$WordReceiver", "received", "LLineCoder$Stirrer;", true)
  | 6 => ("LineCoder$WordReceiver", "goodRow", "I", false)
  | 7 => ("LineCoder$WordReceiver", "lately", "I", false)
  | _ => ("LineCoder$WordReceiver", "last", "J", false)
def ty_W : Nat → FieldType := fun k => match k with
  | 0 => .object "LineCoder$Line"
  | 1 => .boolean
  | 2 => .int
  | 3 => .int
  | 4 => .int
  | 5 => .object "LineCoder$Stirrer"
  | 6 => .int
  | 7 => .int
  | _ => .long
theorem nm_W : ∀ a, a < 9 → ∀ b, b < 9 → a ≠ b → (T_W a).2.1 ≠ (T_W b).2.1 := by decide +kernel
theorem ty_W_ok : ∀ k, k < 9 → parseFieldDescriptor (T_W k).2.2.1 = some (ty_W k) := by decide +kernel
def T_X : u_T := fun k => match k with
  | 0 => ("LineCoder", "tenLine", "LLineCoder$Line;", true)
  | 1 => ("LineCoder", "wordLine", "LLineCoder$Line;", true)
  | 2 => ("LineCoder", "tenReceiver", "LLineCoder$TenReceiver;", true)
  | 3 => ("LineCoder", "wordReceiver", "LLineCoder$WordReceiver;", true)
  | 4 => ("LineCoder", "sentWords", "LLineCoder$Stirrer;", true)
  | _ => ("LineCoder", "senderPlus", "Z", false)
def ty_X : Nat → FieldType := fun k => match k with
  | 0 => .object "LineCoder$Line"
  | 1 => .object "LineCoder$Line"
  | 2 => .object "LineCoder$TenReceiver"
  | 3 => .object "LineCoder$WordReceiver"
  | 4 => .object "LineCoder$Stirrer"
  | _ => .boolean
theorem nm_X : ∀ a, a < 6 → ∀ b, b < 6 → a ≠ b → (T_X a).2.1 ≠ (T_X b).2.1 := by decide +kernel
theorem ty_X_ok : ∀ k, k < 6 → parseFieldDescriptor (T_X k).2.2.1 = some (ty_X k) := by decide +kernel
def T_M : u_T := fun k => match k with
  | 0 => ("LineCoderModel", "refusal", "I", false)
  | 1 => ("LineCoderModel", "sixes", "[I", true)
  | 2 => ("LineCoderModel", "fours", "[I", true)
  | 3 => ("LineCoderModel", "codes", "[I", true)
  | 4 => ("LineCoderModel", "symbolOf", "[I", true)
  | 5 => ("LineCoderModel", "bits", "[I", true)
  | 6 => ("LineCoderModel", "size", "[I", true)
  | 7 => ("LineCoderModel", "place", "[I", true)
  | 8 => ("LineCoderModel", "follows", "[Z", true)
  | 9 => ("LineCoderModel", "marks", "[I", true)
  | 10 => ("LineCoderModel", "slips", "[I", true)
  | 11 => ("LineCoderModel", "bads", "[I", true)
  | 12 => ("LineCoderModel", "wrongs", "I", false)
  | 13 => ("LineCoderModel", "senderPlus", "Z", false)
  | 14 => ("LineCoderModel", "receiverPlus", "Z", false)
  | 15 => ("LineCoderModel", "isFirst", "Z", false)
  | 16 => ("LineCoderModel", "good", "I", false)
  | 17 => ("LineCoderModel", "sentBits", "[I", true)
  | 18 => ("LineCoderModel", "gotBits", "[I", true)
  | 19 => ("LineCoderModel", "lately", "I", false)
  | 20 => ("LineCoderModel", "since", "I", false)
  | 21 => ("LineCoderModel", "last", "J", false)
  | _ => ("LineCoderModel", "running", "Z", false)
def ty_M : Nat → FieldType := fun k => match k with
  | 0 => .int
  | 1 => .array .int
  | 2 => .array .int
  | 3 => .array .int
  | 4 => .array .int
  | 5 => .array .int
  | 6 => .array .int
  | 7 => .array .int
  | 8 => .array .boolean
  | 9 => .array .int
  | 10 => .array .int
  | 11 => .array .int
  | 12 => .int
  | 13 => .boolean
  | 14 => .boolean
  | 15 => .boolean
  | 16 => .int
  | 17 => .array .int
  | 18 => .array .int
  | 19 => .int
  | 20 => .int
  | 21 => .long
  | _ => .boolean
theorem nm_M : ∀ a, a < 23 → ∀ b, b < 23 → a ≠ b → (T_M a).2.1 ≠ (T_M b).2.1 := by decide +kernel
theorem ty_M_ok : ∀ k, k < 23 → parseFieldDescriptor (T_M k).2.2.1 = some (ty_M k) := by decide +kernel
abbrev vwCl : List vw_C := [("LineCoder$Line", T_L, 3), ("LineCoder$Stirrer", T_S, 1), ("LineCoder$TenReceiver", T_T, 9), ("LineCoder$WordReceiver", T_W, 9), ("LineCoder", T_X, 6), ("LineCoderModel", T_M, 23)]
def y_X_init : MethodName := ⟨"LineCoder", "<init>", "()V"⟩
def y_L_init : MethodName := ⟨"LineCoder$Line", "<init>", "()V"⟩
def y_T_init : MethodName := ⟨"LineCoder$TenReceiver", "<init>", "(LLineCoder$Line;)V"⟩
def y_R_init : MethodName := ⟨"LineCoder$Receiver", "<init>", "(LLineCoder$Line;)V"⟩
def y_W_init : MethodName := ⟨"LineCoder$WordReceiver", "<init>", "(LLineCoder$Line;)V"⟩
def y_S_init : MethodName := ⟨"LineCoder$Stirrer", "<init>", "()V"⟩
def y_X_receive : MethodName := ⟨"LineCoder", "receive", "()I"⟩
def y_T_step : MethodName := ⟨"LineCoder$TenReceiver", "step", "()I"⟩
def y_L_left : MethodName := ⟨"LineCoder$Line", "left", "()I"⟩
def y_T_isAtMark : MethodName := ⟨"LineCoder$TenReceiver", "isAtMark", "()Z"⟩
def y_L_ahead : MethodName := ⟨"LineCoder$Line", "ahead", "(I)I"⟩
def y_L_at : MethodName := ⟨"LineCoder$Line", "at", "(I)I"⟩
def y_L_has : MethodName := ⟨"LineCoder$Line", "has", "(I)Z"⟩
def y_R_slip : MethodName := ⟨"LineCoder$Receiver", "slip", "()I"⟩
def y_L_advance : MethodName := ⟨"LineCoder$Line", "advance", "(I)V"⟩
def y_JM_min : MethodName := ⟨"java/lang/Math", "min", "(II)I"⟩
def y_T_takeTen : MethodName := ⟨"LineCoder$TenReceiver", "takeTen", "()I"⟩
def y_K_decode : MethodName := ⟨"LineCoder$TenCode", "decode", "(IZ)I"⟩
def y_K_xOf : MethodName := ⟨"LineCoder$TenCode", "xOf", "(IZ)I"⟩
def y_K_sixOf : MethodName := ⟨"LineCoder$TenCode", "sixOf", "(IZ)I"⟩
def y_JI_bitCount : MethodName := ⟨"java/lang/Integer", "bitCount", "(I)I"⟩
def y_K_isSymbol : MethodName := ⟨"LineCoder$TenCode", "isSymbol", "(I)Z"⟩
def y_K_isAmong : MethodName := ⟨"LineCoder$TenCode", "isAmong", "(II)Z"⟩
def y_K_encode : MethodName := ⟨"LineCoder$TenCode", "encode", "(IZ)I"⟩
def y_K_plusBehindSix : MethodName := ⟨"LineCoder$TenCode", "plusBehindSix", "(IZ)Z"⟩
def y_K_fourOf : MethodName := ⟨"LineCoder$TenCode", "fourOf", "(IZ)I"⟩
def y_K_plusBehind : MethodName := ⟨"LineCoder$TenCode", "plusBehind", "(IZ)Z"⟩
def y_K_plusBehindFour : MethodName := ⟨"LineCoder$TenCode", "plusBehindFour", "(IZ)Z"⟩
def y_T_judge : MethodName := ⟨"LineCoder$TenReceiver", "judge", "(IZ)I"⟩
def y_T_mark : MethodName := ⟨"LineCoder$TenReceiver", "mark", "()V"⟩
def y_T_praise : MethodName := ⟨"LineCoder$TenReceiver", "praise", "()V"⟩
def y_JM_max : MethodName := ⟨"java/lang/Math", "max", "(II)I"⟩
def y_X_take : MethodName := ⟨"LineCoder", "take", "()I"⟩
def y_W_step : MethodName := ⟨"LineCoder$WordReceiver", "step", "()I"⟩
def y_W_takeWord : MethodName := ⟨"LineCoder$WordReceiver", "takeWord", "()V"⟩
def y_S_stirBack : MethodName := ⟨"LineCoder$Stirrer", "stirBack", "(I)I"⟩
def y_S_turning : MethodName := ⟨"LineCoder$Stirrer", "turning", "()I"⟩
def y_S_remember : MethodName := ⟨"LineCoder$Stirrer", "remember", "(I)V"⟩
def y_W_watch : MethodName := ⟨"LineCoder$WordReceiver", "watch", "(Z)V"⟩
def y_W_gain : MethodName := ⟨"LineCoder$WordReceiver", "gain", "()V"⟩
def y_X_word : MethodName := ⟨"LineCoder", "word", "()J"⟩
def y_W_lastWord : MethodName := ⟨"LineCoder$WordReceiver", "lastWord", "()J"⟩
def y_X_isPlus : MethodName := ⟨"LineCoder", "isPlus", "(Z)Z"⟩
def y_T_hasPlus : MethodName := ⟨"LineCoder$TenReceiver", "hasPlus", "()Z"⟩
def y_X_clear : MethodName := ⟨"LineCoder", "clear", "()V"⟩
def y_L_empty : MethodName := ⟨"LineCoder$Line", "empty", "()V"⟩
def y_T_restart : MethodName := ⟨"LineCoder$TenReceiver", "restart", "()V"⟩
def y_R_countAnew : MethodName := ⟨"LineCoder$Receiver", "countAnew", "()V"⟩
def y_W_restart : MethodName := ⟨"LineCoder$WordReceiver", "restart", "()V"⟩
def y_S_forget : MethodName := ⟨"LineCoder$Stirrer", "forget", "()V"⟩
def y_Q_code : MethodName := ⟨"LineCoderLaw", "code", "(LLineCoder;IZ[J)I"⟩
def y_X_code : MethodName := ⟨"LineCoder", "code", "(IZ)I"⟩
def y_X_refuseNoSymbol : MethodName := ⟨"LineCoder", "refuseNoSymbol", "(I)V"⟩
def y_Q_symbol : MethodName := ⟨"LineCoderLaw", "symbol", "(LLineCoder;I[J)I"⟩
def y_X_symbol : MethodName := ⟨"LineCoder", "symbol", "(I)I"⟩
def y_Q_send : MethodName := ⟨"LineCoderLaw", "send", "(LLineCoder;I[J)I"⟩
def y_X_send : MethodName := ⟨"LineCoder", "send", "(I)I"⟩
def y_X_refuseNoRoom : MethodName := ⟨"LineCoder", "refuseNoRoom", "(LLineCoder$Line;I)V"⟩
def y_L_hasRoom : MethodName := ⟨"LineCoder$Line", "hasRoom", "(I)Z"⟩
def y_L_append : MethodName := ⟨"LineCoder$Line", "append", "(II)V"⟩
def y_Q_put : MethodName := ⟨"LineCoderLaw", "put", "(LLineCoder;JZ[J)I"⟩
def y_X_put : MethodName := ⟨"LineCoder", "put", "(JZ)I"⟩
def y_S_stir : MethodName := ⟨"LineCoder$Stirrer", "stir", "(I)I"⟩
def y_L_size : MethodName := ⟨"LineCoder$Line", "size", "()I"⟩
def y_Q_raw : MethodName := ⟨"LineCoderLaw", "raw", "(LLineCoder;III[J)I"⟩
def y_X_raw : MethodName := ⟨"LineCoder", "raw", "(III)I"⟩
def y_X_lineOf : MethodName := ⟨"LineCoder", "lineOf", "(I)LLineCoder$Line;"⟩
def y_Q_bend : MethodName := ⟨"LineCoderLaw", "bend", "(LLineCoder;II[J)I"⟩
def y_X_bend : MethodName := ⟨"LineCoder", "bend", "(II)Z"⟩
def y_L_turn : MethodName := ⟨"LineCoder$Line", "turn", "(I)V"⟩
def y_Q_lose : MethodName := ⟨"LineCoderLaw", "lose", "(LLineCoder;III[J)I"⟩
def y_X_lose : MethodName := ⟨"LineCoder", "lose", "(III)I"⟩
def y_L_place : MethodName := ⟨"LineCoder$Line", "place", "()I"⟩
def y_L_remove : MethodName := ⟨"LineCoder$Line", "remove", "(II)I"⟩
def y_Q_bit : MethodName := ⟨"LineCoderLaw", "bit", "(LLineCoder;II[J)I"⟩
def y_X_bit : MethodName := ⟨"LineCoder", "bit", "(II)I"⟩
def y_Q_count : MethodName := ⟨"LineCoderLaw", "count", "(LLineCoder;II[J)I"⟩
def y_X_count : MethodName := ⟨"LineCoder", "count", "(II)I"⟩
def y_R_isFollowing : MethodName := ⟨"LineCoder$Receiver", "isFollowing", "()Z"⟩
def y_T_marks : MethodName := ⟨"LineCoder$TenReceiver", "marks", "()I"⟩
def y_W_marks : MethodName := ⟨"LineCoder$WordReceiver", "marks", "()I"⟩
def y_R_slips : MethodName := ⟨"LineCoder$Receiver", "slips", "()I"⟩
def y_R_bads : MethodName := ⟨"LineCoder$Receiver", "bads", "()I"⟩
def y_R_wrongs : MethodName := ⟨"LineCoder$Receiver", "wrongs", "()I"⟩
def y_L_onesLessZeros : MethodName := ⟨"LineCoder$Line", "onesLessZeros", "()I"⟩
def y_L_longestRun : MethodName := ⟨"LineCoder$Line", "longestRun", "()I"⟩
def y_M_init : MethodName := ⟨"LineCoderModel", "<init>", "()V"⟩
def y_M_isSymbol : MethodName := ⟨"LineCoderModel", "isSymbol", "(I)Z"⟩
def y_M_make : MethodName := ⟨"LineCoderModel", "make", "(IZ)I"⟩
def y_M_ones : MethodName := ⟨"LineCoderModel", "ones", "(I)I"⟩
def y_M_behindSix : MethodName := ⟨"LineCoderModel", "behindSix", "(IZ)Z"⟩
def y_M_empty : MethodName := ⟨"LineCoderModel", "empty", "()V"⟩
def y_M_thrown : MethodName := ⟨"LineCoderModel", "thrown", "()I"⟩
def y_M_clear : MethodName := ⟨"LineCoderModel", "clear", "()V"⟩
def y_M_code : MethodName := ⟨"LineCoderModel", "code", "(IZ)I"⟩
def y_M_refused : MethodName := ⟨"LineCoderModel", "refused", "(I)Z"⟩
def y_M_symbol : MethodName := ⟨"LineCoderModel", "symbol", "(I)I"⟩
def y_M_isIn : MethodName := ⟨"LineCoderModel", "isIn", "(III)Z"⟩
def y_M_send : MethodName := ⟨"LineCoderModel", "send", "(I)I"⟩
def y_M_append : MethodName := ⟨"LineCoderModel", "append", "(II)V"⟩
def y_M_behind : MethodName := ⟨"LineCoderModel", "behind", "(IZ)Z"⟩
def y_M_behindFour : MethodName := ⟨"LineCoderModel", "behindFour", "(IZ)Z"⟩
def y_M_receive : MethodName := ⟨"LineCoderModel", "receive", "()I"⟩
def y_M_bitsAt : MethodName := ⟨"LineCoderModel", "bitsAt", "(II)I"⟩
def y_M_taken : MethodName := ⟨"LineCoderModel", "taken", "(I)I"⟩
def y_M_put : MethodName := ⟨"LineCoderModel", "put", "(JZ)I"⟩
def y_M_remember : MethodName := ⟨"LineCoderModel", "remember", "([II)V"⟩
def y_M_take : MethodName := ⟨"LineCoderModel", "take", "()I"⟩
def y_M_takeWord : MethodName := ⟨"LineCoderModel", "takeWord", "(I)V"⟩
def y_M_onesOf : MethodName := ⟨"LineCoderModel", "onesOf", "(I)I"⟩
def y_M_word : MethodName := ⟨"LineCoderModel", "word", "()J"⟩
def y_M_raw : MethodName := ⟨"LineCoderModel", "raw", "(III)I"⟩
def y_M_isStream : MethodName := ⟨"LineCoderModel", "isStream", "(I)Z"⟩
def y_M_bend : MethodName := ⟨"LineCoderModel", "bend", "(II)Z"⟩
def y_M_lose : MethodName := ⟨"LineCoderModel", "lose", "(III)I"⟩
def y_M_bit : MethodName := ⟨"LineCoderModel", "bit", "(II)I"⟩
def y_M_count : MethodName := ⟨"LineCoderModel", "count", "(II)I"⟩
def y_M_balance : MethodName := ⟨"LineCoderModel", "balance", "(I)I"⟩
def y_M_longest : MethodName := ⟨"LineCoderModel", "longest", "(I)I"⟩
def y_M_isPlus : MethodName := ⟨"LineCoderModel", "isPlus", "(Z)Z"⟩
end
section
/-! My own rows over the kit: a contract that may end by an exception (xMet), one row for every kind of call (x_back). -/
/-- the words that outlast every warming of the tables -/
def xGood : Cond → Bool
  | .methodLinkNest _ _ _ _ => true
  | .fieldLinkNest _ _ _ _ _ _ => true
  | .declares _ => true
  | .castable _ _ => true
  | .stringRef _ _ _ => true
  | w => goodWord w
theorem x_warm {w : Cond} (h : xGood w = true) {args a' : Array Value} {s U : State} (hW : s.WarmedH U.vm) (hb : w.before args s = true) : w.before a' U = true := by
  cases w
  case methodLinkNest a i x h' => exact va_Nw.use rfl (va_Nw.warmM hW (va_Nw.of rfl hb))
  case fieldLinkNest a i b n d h' => exact va_Nw.use rfl (va_Nw.warmF hW (va_Nw.of rfl hb))
  case declares x => exact va_Nw.use rfl (va_Nw.warmD hW (va_Nw.of rfl hb))
  case castable a b =>
    have h1 : (Cond.castable a b).before args (s.setVm U.vm) = true := by rw [Cond.castable_setVm hW.alike]; exact hb
    exact va_tabs rfl (rfl : (s.setVm U.vm).vm = U.vm) h1
  case stringRef a i t =>
    have h1 : (Cond.stringRef a i t).before args (s.setVm U.vm) = true := Cond.stringRef_warmed hW hb
    simp only [Cond.before, Cond.holds, Cond.value, State.names, State.poolOf?, State.resolvedAt?] at h1 ⊢
    exact h1
  all_goals
    refine word_at hW (good_of_word ?_) hb
    exact h
def xG : List Cond := lw_tbl.filter xGood
theorem xG_of {w : Cond} (h : w ∈ lw_tbl) (hg : xGood w = true) : w ∈ xG := List.mem_filter.mpr ⟨h, hg⟩
theorem xG_at {w : Cond} (i : Nat) (h : tables_1[i]? = some w) (hg : xGood w = true) : w ∈ xG := xG_of (List.mem_append_right _ (List.mem_of_getElem? h)) hg
theorem xG_in {w : Cond} (h : w ∈ xG) : w ∈ lw_tbl := (List.mem_filter.mp h).1
theorem xG_warm {w : Cond} (h : w ∈ xG) {args a' : Array Value} {s U : State} (hW : s.WarmedH U.vm) (hb : w.before args s = true) : w.before a' U = true := x_warm (List.mem_filter.mp h).2 hW hb
/-- how a method ends, by a value or by an exception: nothing else moved but the slots L, and at most k new cells of n slots -/
def xEnd (first t : State) (L : List Loc) (k n : Nat) : Prop := first.WarmedH t.vm ∧ first.sameButNew ({ t with vm := first.vm } : State) L k n
def xMet (l : Launch) (y : MethodName) (ws : List Cond) (rm : Room) (Pc : Array Value → State → Prop) (Qc : Array Value → State → Outcome → State → Prop) (free : Addr → Prop) : Prop :=
  MetFree l y (headSpec ws rm) Pc (fun _ _ _ _ _ => True) (fun a st o t => Qc a st o t ∧ ∃ L, xEnd st t L rm.cells rm.slots ∧ ∀ q ∈ L, free q.base)
section XB
variable {p : Program} {l : Launch} {e : Env} {R : Room} {s : State} {m : MethodId} {args : Array Value} {below : List Frame} {meth : Method} {c : Code}
def xGo (g : JFrame) (len : Nat) (o : Outcome) (U : State) : State := match o with
  | .returned v => U.setTop { g with pc := g.pc + len, stack := v.toList ++ g.stack }
  | .threw x => (U.setTop g).pushFrame (.throwing x)
theorem x_back {y : MethodName} {ws : List Cond} {rm : Room} {Pc : Array Value → State → Prop} {Qc : Array Value → State → Outcome → State → Prop} {free : Addr → Prop} (hM : xMet l y ws rm Pc Qc free) (hbl : FrameBlind Pc)
    {U : State} {Ls : List Loc} {c0 s0 : Nat} (X : Stand p l e R s m args below meth c U Ls c0 s0)
    {g : JFrame} {ig : Instr} {len : Nat} {mk : MethodId} {a : Array Value} (hg : g.method = m) (hsize : g.locals.size = c.maxLocals) (hdg : decode c.code g.pc = .ok (ig, len))
    (hW : 2 * g.monitorRoom + (g.stack.map fun v => v.category).sum ≤ 8) (hn : U.methodNamed? y = some mk)
    {methY : Method} {cY : Code} {maxL : Nat} (hmY : U.vm.method? mk = some methY) (hcY : methY.code = some cY) (hlY : cY.maxLocals = maxL)
    (hframes : rm.frames + 1 ≤ R.frames) (hlocals : 8 + (maxL + 11) + rm.locals ≤ R.locals)
    (hws : ∀ w ∈ ws, w.before a U = true) (hini : (Cond.initialized y.cls).before a U = true) (h4 : c0 + rm.cells ≤ R.cells) (h5 : s0 + rm.slots ≤ R.slots) (hp : Pc a U) :
    ∃ (o : Outcome) (t : State) (L : List Loc) (U' : State), Stand p l e R s m args below meth c U' (Ls ++ L) (c0 + rm.cells) (s0 + rm.slots) ∧ (∀ q ∈ L, free q.base) ∧ U'.heap = t.heap ∧ U'.vm = t.vm ∧ Qc a (U.calling g mk a) o t ∧
      Steps p.tables e below (doInvoke e (U.setTop g) [] mk a).1 (xGo g len o U') := by
  obtain ⟨kY, hkY, -⟩ := className_of_methodNamed hn
  have hinitY : kY.init = .initialized := Cond.initialized_spec (findClass_of_methodNamed hn) hkY hini
  have h : At U g.method c below := by rw [hg]; exact X.here
  have happ : (headSpec ws rm).appliesLoose y e.platform (U.calling g mk a) = true :=
    Spec.appliesLoose_calling (g := g) h hdg hn hkY hinitY
      (X.room_calling (g := g) (R' := rm) hsize hmY hcY hframes (by rw [hlY]; omega) h4 h5) (atoms_intro hws)
  obtain ⟨mid, hmid⟩ := h.above
  have hfr : (U.setTop g).frames = (.java g :: mid) ++ below := by rw [State.frames_setTop' g h.top, hmid]; rfl
  obtain ⟨o, s₂, hsteps, -, hend, hq⟩ := Steps.callFree hM p X.admits X.cas X.clock (acts := []) hfr happ (hbl _ _ _ _ hp) trivial
  obtain ⟨hq', L, hfe0, hL⟩ := hq
  have hfe : xEnd (U.calling g mk a) s₂ L rm.cells rm.slots := hfe0
  rw [State.frames_setTop' g h.top] at hend
  obtain ⟨hW₂, e2, q2, q3, q4, q5, q6⟩ := id hfe
  have e3 : s₂ = ({ (U.calling g mk a).setFrames s₂.frames with heap := s₂.heap, slotsUsed := s₂.slotsUsed } : State).setVm s₂.vm := by
    have : s₂ = ({ s₂ with vm := (U.calling g mk a).vm } : State).setVm s₂.vm := rfl
    rw [e2] at this
    exact this
  have hW' : U.WarmedH s₂.vm := hW₂
  obtain ⟨g₀, hg0⟩ := Option.isSome_iff_exists.mp h.top
  obtain ⟨r, hr⟩ := State.topJava?_eq_some.mp hg0
  have hr' : (({ U with heap := s₂.heap, slotsUsed := s₂.slotsUsed } : State).setVm s₂.vm).frames = .java g₀ :: r := hr
  have hs₂ : s₂ = xGo g len o (({ U with heap := s₂.heap, slotsUsed := s₂.slotsUsed } : State).setVm s₂.vm) := by
    cases o with
    | returned v =>
      obtain ⟨c₂, i₂, len₂, hc₂, hd₂, hf₂⟩ := hend
      have hcc : c₂ = c := by
        have h1 : s₂.code? g.method = U.code? g.method := by
          rw [State.code?_eq, State.code?_eq, hW'.alike.method?]
        exact Option.some.inj (hc₂.symm.trans (h1.trans h.code))
      subst hcc
      have hlen : len₂ = len := by rw [hdg] at hd₂; cases hd₂; rfl
      subst hlen
      refine e3.trans ?_
      show _ = (({ U with heap := s₂.heap, slotsUsed := s₂.slotsUsed } : State).setVm s₂.vm).setTop { g with pc := g.pc + len₂, stack := v.toList ++ g.stack }
      rw [hf₂, State.calling_eq h.top, State.setFrames_setFrames, State.setTop_of_frames _ hr', hr]
      rfl
    | threw x =>
      have hf₂ : s₂.frames = .throwing x :: .java g :: r := by
        have h1 : s₂.frames = .throwing x :: .java g :: U.frames.tail := hend
        rw [h1, hr]
        rfl
      refine e3.trans ?_
      show _ = ((({ U with heap := s₂.heap, slotsUsed := s₂.slotsUsed } : State).setVm s₂.vm).setTop g).pushFrame (.throwing x)
      obtain ⟨tt, htt, -⟩ := State.frames_cons hr'
      have hlt := (Array.getElem?_eq_some_iff.mp htt).1
      rw [hf₂, State.calling_eq h.top, State.setFrames_setFrames, State.setTop_of_frames _ hr', State.pushFrame, State.setFrames_setFrames, State.frames_setFrames _ hlt]
      rfl
  have hsame : U.sameButNew ({ U with heap := s₂.heap, slotsUsed := s₂.slotsUsed } : State) L rm.cells rm.slots := by
    refine ⟨?_, q2, q3, q4, q5, q6⟩
    obtain ⟨t, ht, -⟩ := State.frames_cons hr
    show ({ U with heap := s₂.heap, slotsUsed := s₂.slotsUsed } : State) = { U.setFrames U.frames with heap := s₂.heap, slotsUsed := s₂.slotsUsed }
    rw [State.setFrames_self ht]
  refine ⟨o, s₂, L, (({ U with heap := s₂.heap, slotsUsed := s₂.slotsUsed } : State).setVm s₂.vm), ?_, hL, rfl, rfl, hq', ?_⟩
  · subst hg
    exact ⟨X.admits, X.cas, X.clock, X.frames, X.room, X.hears, X.method, X.code, (X.here.setHeapUsed s₂.heap s₂.slotsUsed).setVm hW'.alike, X.tail, State.WarmedH.trans X.warmed hW', X.limits, X.bytes, X.same.trans (hsame.setVm s.vm)⟩
  · rw [← hs₂]
    exact hsteps
end XB
end
section
/-! The judgement of a walk with its world (xW), the contract (xC), the rows of calls, throws, returns. -/
abbrev xE : Type := va_G × (Nat → Nat)
def xtys (E : xE) : List (ClassId × FieldType) := [(E.2 0, .byte), (E.2 1, .int), (E.2 2, .long), (E.2 3, .boolean)]
def sixT (j : Nat) : Int32 := [39, 29, 45, 49, 53, 41, 25, 56, 57, 37, 21, 52, 13, 44, 28, 23, 27, 35, 19, 50, 11, 42, 26, 58, 51, 38, 22, 54, 14, 46, 30, 43].getD j 0
def fourT (j : Nat) : Int32 := [11, 9, 5, 12, 13, 10, 6, 14].getD j 0
/-- a static of Throwable's that holds a reference or null -/
def xSt (n d : String) (A : Nat → Prop) (U : State) (H : Heap) : Prop := ∃ (c : ClassId) (k : Class) (i : Nat) (f : Field) (a : Nat) (cell : Cell) (v : Value), U.vm.findClass Bundle.tN = some c ∧ U.fieldFound? Bundle.tN n d = some (c, k, i, f) ∧ f.isStatic = true ∧ k.statics = some a ∧ cell.vm.isStatics = true ∧ cell.cls = c ∧ f.slot < cell.slots.size ∧ k.staticTypes[f.slot]? = some f.type ∧ cell.slots[f.slot]? = some v ∧ v.isRef = true ∧ H[a]? = some cell ∧ ¬ A a
theorem xSt.moved {n d : String} {A : Nat → Prop} {u U : State} {H : Heap} (hvm : u.vm.Alike U.vm) (h : xSt n d A u H) : xSt n d A U H := by
  obtain ⟨c, k, i, f, a, cell, v, h1, h2, h3, h4, h5, h6, h7, h8, h9⟩ := h
  obtain ⟨k', hi', he⟩ := State.fieldFound?_setVm hvm h2
  exact ⟨c, k', i, f, a, cell, v, by rw [hvm.findClass]; exact h1, hi', h3, by rw [he]; exact h4, h5, h6, h7, by rw [he]; exact h8, h9⟩
theorem xSt.kept {n d : String} {A : Nat → Prop} {U : State} {H H1 : Heap} (h : xSt n d A U H) (hq : ∀ a : Nat, a < H.size → ¬ A a → H1[a]? = H[a]?) : xSt n d A U H1 := by
  obtain ⟨c, k, i, f, a, cell, v, h1, h2, h3, h4, h5, h6, h7, h8, h9, h10, h11, h12⟩ := h
  exact ⟨c, k, i, f, a, cell, v, h1, h2, h3, h4, h5, h6, h7, h8, h9, h10, by rw [hq a (Array.getElem?_eq_some_iff.mp h11).1 h12]; exact h11, h12⟩
theorem xSt.narrow {n d : String} {A B : Nat → Prop} {U : State} {H : Heap} (h : xSt n d A U H) (hAB : ∀ q, B q → A q) : xSt n d B U H := by
  obtain ⟨c, k, i, f, a, cell, v, h1, h2, h3, h4, h5, h6, h7, h8, h9, h10, h11, h12⟩ := h
  exact ⟨c, k, i, f, a, cell, v, h1, h2, h3, h4, h5, h6, h7, h8, h9, h10, h11, fun z => h12 (hAB _ z)⟩
theorem xSt.lays {n d : String} {A : Nat → Prop} {U : State} {args : Array Value} (h : xSt n d A U U.heap) : (Cond.laysStatic Bundle.tN n d).before args U = true := by
  obtain ⟨c, k, i, f, a, cell, v, h1, h2, h3, h4, h5, h6, h7, h8, h9, h10, h11, h12⟩ := h
  exact Cond.laysStatic_of h1 h2 h3 h4 h11 h5 h6 h7 h8
theorem xSt.ref {n d : String} {A : Nat → Prop} {U : State} {args : Array Value} (h : xSt n d A U U.heap) : (Cond.isRef (.static Bundle.tN n d)).before args U = true := by
  obtain ⟨c, k, i, f, a, cell, v, h1, h2, h3, h4, h5, h6, h7, h8, h9, h10, h11, h12⟩ := h
  have ev : (Term.static Bundle.tN n d).eval args U none [] U = some v := by
    simp [Term.eval, State.fieldNamed?, h2, h3, h4, h11, h5, h9]
  simp only [Cond.before, Cond.holds, Cond.value, ev]
  cases v <;> simp_all [Value.isRef]
/-- what the tables of constants hold: carried everywhere -/
def xZ (E : xE) (A : Nat → Prop) (U : State) (H : Heap) : Prop :=
  xSt "UNASSIGNED_STACK" Bundle.steD A U H ∧ xSt "SUPPRESSED_SENTINEL" Bundle.listD A U H ∧ va_Z "LineCoder$TenCode" "SIX" "[I" (.ref (E.2 10)) A U H ∧ va_T .int (E.2 10) 32 (fun j => .int (sixT j)) A U H ∧ va_Z "LineCoder$TenCode" "FOUR" "[I" (.ref (E.2 11)) A U H ∧ va_T .int (E.2 11) 8 (fun j => .int (fourT j)) A U H
theorem xZ.moved {E : xE} {A : Nat → Prop} {u U : State} {H : Heap} (hW : u.WarmedH U.vm) (h : xZ E A u H) : xZ E A U H := ⟨xSt.moved hW.alike h.1, xSt.moved hW.alike h.2.1, va_Z.moved hW.alike h.2.2.1, va_T.moved hW.alike h.2.2.2.1, va_Z.moved hW.alike h.2.2.2.2.1, va_T.moved hW.alike h.2.2.2.2.2⟩
theorem xZ.kept {E : xE} {A : Nat → Prop} {U : State} {H H1 : Heap} (h : xZ E A U H) (hq : ∀ a : Nat, a < H.size → ¬ A a → H1[a]? = H[a]?) : xZ E A U H1 := ⟨h.1.kept hq, h.2.1.kept hq, h.2.2.1.kept hq, h.2.2.2.1.kept hq, h.2.2.2.2.1.kept hq, h.2.2.2.2.2.kept hq⟩
theorem xZ.narrow {E : xE} {A B : Nat → Prop} {U : State} {H : Heap} (h : xZ E A U H) (hAB : ∀ q, B q → A q) : xZ E B U H := ⟨h.1.narrow hAB, h.2.1.narrow hAB, h.2.2.1.narrow hAB, h.2.2.2.1.narrow hAB, h.2.2.2.2.1.narrow hAB, h.2.2.2.2.2.narrow hAB⟩
/-- a value returned, or an exception of a class -/
abbrev xO : Type := Option Value ⊕ String
def xIs (sz : Nat) (o : xO) (oc : Outcome) (t : State) : Prop := match o with
  | .inl v => oc = .returned v
  | .inr C => ∃ (a : Nat) (cell : Cell), oc = .threw a ∧ sz ≤ a ∧ t.heap[a]? = some cell ∧ cell.vm.isStatics = false ∧ t.vm.findClass C = some cell.cls
def xPre (E : xE) (av : List Value) (w : va_W) (sz : Nat) : Array Value → State → Prop := fun v U => v = av.toArray ∧ U.heap.size = sz ∧ va_P E.1 vwCl w U.heap ∧ va_K E.1 vwCl (xtys E) U ∧ va_D (fun _ => True) w ∧ xZ E (va_A w sz) U U.heap
def xPost (E : xE) (w : va_W) (sz : Nat) (Post : xO → va_W → Prop) : Array Value → State → Outcome → State → Prop := fun _ st oc t => (∃ (o : xO) (w' : va_W), xIs sz o oc t ∧ Post o w' ∧ va_P E.1 vwCl w' t.heap ∧ va_D (va_A w sz) w') ∧ va_F (va_A w sz) st t
/-- method y with arguments av in the world w: it ends, 'Post outcome world'; hd is its code word -/
def xC (l : Launch) (E : xE) (y : MethodName) (hd : Cond) (rm : Room) (av : List Value) (w : va_W) (Post : xO → va_W → Prop) : Prop :=
  ∀ sz : Nat, xMet l y (hd :: xG) rm (xPre E av w sz) (xPost E w sz Post) (va_A w sz)
theorem x_blind {E : xE} {av : List Value} {w : va_W} {sz : Nat} : FrameBlind (xPre E av w sz) := by
  intro a U g mk h
  obtain ⟨h1, h2, h3, h4, h5, h6⟩ := h
  exact ⟨h1, h2, h3, va_K.moved (u := U) (U := U.calling g mk a) (Vm.Alike.refl U.vm) h4, h5, xZ.moved (u := U) (U := U.calling g mk a) (State.WarmedH.refl U) h6⟩
def xMQ (below : List Frame) (E : xE) (w : va_W) (a : Array Value) (s : State) (mc ms : Nat) (Post : xO → va_W → Prop) : State → Prop := fun t =>
  ∃ o, t.status = .running ∧ Ended t below o ∧ xPost E w s.heap.size Post a s o t ∧ ∃ L, xEnd s t L mc ms ∧ ∀ q ∈ L, va_A w s.heap.size q.base
section XW
variable (p : Program) (l : Launch) (e : Env) (R : Room) (s : State) (m : MethodId) (args : Array Value) (below : List Frame) (meth : Method) (c : Code)
/-- the walk's judgement: at pc, locals lv, stack st, in the world ws, k cells and n slots made -/
def xW (nL : Nat) (E : xE) (B A : Nat → Prop) (k n : Nat) (Q : State → Prop) (ws : va_W) (pc : Nat) (lv : List (Nat × Value)) (st : List Value) : Prop :=
  ∀ (H : Heap) (locs : List Loc) (ls : Array Slot), lv_has ls nL lv → va_P E.1 vwCl ws H → va_D B ws → va_S A s.heap H locs → W p l e R s m args below meth c H locs k n Q (F0 m pc ls st)
/-- an exception of class C is being thrown at pc -/
def xT (nL : Nat) (E : xE) (B A : Nat → Prop) (k n : Nat) (Q : State → Prop) (ws : va_W) (pc : Nat) (lv : List (Nat × Value)) (C : String) : Prop :=
  ∀ (H : Heap) (locs : List Loc) (ls : Array Slot) (st : List Value) (a : Nat) (cell : Cell), lv_has ls nL lv → va_P E.1 vwCl ws H → va_D B ws → va_S A s.heap H locs → s.heap.size ≤ a → H[a]? = some cell → cell.vm.isStatics = false → s.vm.findClass C = some cell.cls →
    ∀ T : State, T.heap = H → Stand p l e R s m args below meth c T locs k n → ∃ t, Steps p.tables e below ((T.setTop (F0 m pc ls st)).pushFrame (.throwing a)) t ∧ Q t
end XW
/-- what stays the same over a method's walk -/
def xB (p : Program) (s : State) (m : MethodId) (args : Array Value) (meth : Method) (c : Code) (E : xE) (A : Nat → Prop) (own : String) (cc : ByteArray) (nL : Nat) (ret : Option FieldType) (mn : String) (hs : List (Nat × Nat × Nat × Nat)) : Prop :=
  p.tables.exec = Jvm.exec ∧ c.code = cc ∧ c.maxLocals = nL ∧ s.vm.findClass own = some m.cls ∧ (∀ w ∈ xG, w.before args s = true) ∧ va_K E.1 vwCl (xtys E) s ∧ xZ E A s s.heap ∧ meth.sig.returnType = ret ∧ meth.locks = false ∧ (∀ q, s.heap.size ≤ q → A q) ∧ meth.name = mn ∧ (∀ q, A q → ∀ cell : Cell, s.heap[q]? = some cell → cell.vm.isStatics = false) ∧ c.exceptionTable.toList.map (fun h => (h.startPc, h.endPc, h.handlerPc, h.catchType)) = hs
section XR
variable {p : Program} {l : Launch} {e : Env} {R : Room} {s : State} {m : MethodId} {args : Array Value} {below : List Frame} {meth : Method} {c : Code} {nL : Nat} {E : xE} {B A : Nat → Prop} {k n : Nat} {Q : State → Prop} {ws : va_W} {pc : Nat} {lv : List (Nat × Value)} {st rest : List Value} {own mn : String} {cc : ByteArray} {ret : Option FieldType} {hs : List (Nat × Nat × Nat × Nat)}
theorem xB.qx (h : xB p s m args meth c E A own cc nL ret mn hs) : p.tables.exec = Jvm.exec := h.1
theorem xB.qb (h : xB p s m args meth c E A own cc nL ret mn hs) : c.code = cc := h.2.1
theorem xB.ql (h : xB p s m args meth c E A own cc nL ret mn hs) : c.maxLocals = nL := h.2.2.1
theorem xB.qo (h : xB p s m args meth c E A own cc nL ret mn hs) : s.vm.findClass own = some m.cls := h.2.2.2.1
theorem xB.qt (h : xB p s m args meth c E A own cc nL ret mn hs) : ∀ w ∈ xG, w.before args s = true := h.2.2.2.2.1
theorem xB.qk (h : xB p s m args meth c E A own cc nL ret mn hs) : va_K E.1 vwCl (xtys E) s := h.2.2.2.2.2.1
theorem xB.qz (h : xB p s m args meth c E A own cc nL ret mn hs) : xZ E A s s.heap := h.2.2.2.2.2.2.1
theorem xB.qr (h : xB p s m args meth c E A own cc nL ret mn hs) : meth.sig.returnType = ret := h.2.2.2.2.2.2.2.1
theorem xB.qn (h : xB p s m args meth c E A own cc nL ret mn hs) : meth.locks = false := h.2.2.2.2.2.2.2.2.1
theorem xB.qa (h : xB p s m args meth c E A own cc nL ret mn hs) : ∀ q, s.heap.size ≤ q → A q := h.2.2.2.2.2.2.2.2.2.1
theorem xB.qm (h : xB p s m args meth c E A own cc nL ret mn hs) : meth.name = mn := h.2.2.2.2.2.2.2.2.2.2.1
theorem xB.qs (h : xB p s m args meth c E A own cc nL ret mn hs) : ∀ q, A q → ∀ cell : Cell, s.heap[q]? = some cell → cell.vm.isStatics = false := h.2.2.2.2.2.2.2.2.2.2.2.1
theorem xB.qe (h : xB p s m args meth c E A own cc nL ret mn hs) : c.exceptionTable.toList.map (fun h => (h.startPc, h.endPc, h.handlerPc, h.catchType)) = hs := h.2.2.2.2.2.2.2.2.2.2.2.2
theorem x_nst {D : va_G} {cl : List vw_C} {w : va_W} {H : Heap} (hP : va_P D cl w H) : ∀ q, va_A w H.size q → ∀ cell : Cell, H[q]? = some cell → cell.vm.isStatics = false := by
  intro q hq cell hc
  rcases hq with ⟨k, e, hk⟩ | hq
  · have h := hP k (q, e) hk
    cases e with
    | inl a =>
      have h : H[q]? = some (vp_cell a.1 a.2) := h
      rw [hc] at h
      cases h
      obtain ⟨c, n, v⟩ := a
      rcases v with f | f | f | f | f <;> rfl
    | inr o =>
      obtain ⟨r, -, cell', h1, h2, h3, -⟩ := h
      have h1 : H[q]? = some cell' := h1
      rw [hc] at h1
      cases h1
      rw [h3]
      rfl
  · exact absurd (Array.getElem?_eq_some_iff.mp hc).1 (by omega)
/-- a contract out of a walk from the method's entry -/
theorem x_of {y : MethodName} {rm : Room} {av : List Value} {w : va_W} {Post : xO → va_W → Prop} (hy : plainFor y = true) (hsl : (lg_sl av).length ≤ nL) (hlv : lv_args 0 av = lv)
    (body : ∀ p e s m args below meth c A, A = va_A w s.heap.size → xB p s m args meth c E A y.cls cc nL ret y.name [] → xW p l e rm s m args below meth c nL E A A 0 0 (xMQ below E w args s rm.cells rm.slots Post) w 0 lv []) : xC l E y (.code y cc nL ret) rm av w Post := by
  intro sz
  refine MetFree.of_bodySF (code := cc) (maxLocals := nL) (ret := ret) hy ?_ ?_
  · intro args s m h hn
    obtain ⟨meth, c, h1, h2, h3, h4, h5, h6, -, -⟩ := Cond.code_spec hn (atoms_spec (ws := Cond.code y cc nL ret :: xG) h _ List.mem_cons_self)
    exact ⟨meth, c, h1, h2, h3, h4, h5, h6⟩
  · intro p e s m args below meth c s₁ B hml hP _
    obtain ⟨rfl, rfl, hP, hK, hD, hZ⟩ := hP
    have hts := atoms_spec (ws := Cond.code y cc nL ret :: xG) B.pre
    have hh0 : s₁.heap = s.heap := by rw [B.state]; rfl
    have hne : c.exceptionTable.isEmpty = true := B.noHandlers (hts _ List.mem_cons_self)
    have hl := lv_entry av (n := nL) hsl
    have K : W p l e rm s m av.toArray below meth c s.heap [] 0 0 (xMQ below E w av.toArray s rm.cells rm.slots Post) (entryFrame m av.toArray nL) := by
      rw [lg_entry_eq]
      refine body p e s m av.toArray below meth c _ rfl ⟨B.exec, B.bytes, hml, findClass_of_methodNamed B.named, fun w hw => hts w (List.mem_cons_of_mem _ hw), hK, hZ, B.returns, B.notSynchronized, fun q h => Or.inr h, (name_of_methodNamed B.named B.method).1, x_nst hP, ?_⟩ s.heap [] _ ?_ hP hD.self va_S.rf
      · rw [show c.exceptionTable = #[] from Array.isEmpty_iff.mp hne]; rfl
      · rw [← hlv]; exact hl
    obtain ⟨t, a1, o, b1, b2, b3, b4⟩ := K s₁ hh0 (Stand.of_body B)
    exact ⟨t, o, a1, b1, b2, b3, b4⟩
/-- the same for a method with handlers -/
theorem x_ofH {y : MethodName} {rm : Room} {av : List Value} {w : va_W} {Post : xO → va_W → Prop} (hy : plainFor y = true) (hsl : (lg_sl av).length ≤ nL) (hlv : lv_args 0 av = lv)
    (body : ∀ p e s m args below meth c A, A = va_A w s.heap.size → xB p s m args meth c E A y.cls cc nL ret y.name hs → xW p l e rm s m args below meth c nL E A A 0 0 (xMQ below E w args s rm.cells rm.slots Post) w 0 lv []) : xC l E y (.codeWith y cc nL ret hs) rm av w Post := by
  intro sz
  refine MetFree.of_bodySF (code := cc) (maxLocals := nL) (ret := ret) hy ?_ ?_
  · intro args s m h hn
    obtain ⟨m', meth, c, h0, h1, h2, h3, h4, -, h5, h6, -⟩ := Cond.codeWith_spec (atoms_spec (ws := Cond.codeWith y cc nL ret hs :: xG) h _ List.mem_cons_self)
    cases hn.symm.trans h0
    exact ⟨meth, c, h1, h2, h3, h4, h5, h6⟩
  · intro p e s m args below meth c s₁ B hml hP _
    obtain ⟨rfl, rfl, hP, hK, hD, hZ⟩ := hP
    have hts := atoms_spec (ws := Cond.codeWith y cc nL ret hs :: xG) B.pre
    have hh0 : s₁.heap = s.heap := by rw [B.state]; rfl
    have hl := lv_entry av (n := nL) hsl
    have hex : c.exceptionTable.toList.map (fun h => (h.startPc, h.endPc, h.handlerPc, h.catchType)) = hs := by
      obtain ⟨m', meth', c', h0, h1, h2, h3, h4, h5, -⟩ := Cond.codeWith_spec (hts _ List.mem_cons_self)
      cases B.named.symm.trans h0
      cases B.method.symm.trans h1
      cases (Stand.of_body B).code.symm.trans h2
      exact h5
    have K : W p l e rm s m av.toArray below meth c s.heap [] 0 0 (xMQ below E w av.toArray s rm.cells rm.slots Post) (entryFrame m av.toArray nL) := by
      rw [lg_entry_eq]
      refine body p e s m av.toArray below meth c _ rfl ⟨B.exec, B.bytes, hml, findClass_of_methodNamed B.named, fun w hw => hts w (List.mem_cons_of_mem _ hw), hK, hZ, B.returns, B.notSynchronized, fun q h => Or.inr h, (name_of_methodNamed B.named B.method).1, x_nst hP, hex⟩ s.heap [] _ ?_ hP hD.self va_S.rf
      rw [← hlv]; exact hl
    obtain ⟨t, a1, o, b1, b2, b3, b4⟩ := K s₁ hh0 (Stand.of_body B)
    exact ⟨t, o, a1, b1, b2, b3, b4⟩
theorem x_cb {N b : Nat} (h : N < 65536) (hb : b ≤ 8) : N * b ≤ 536870912 := Nat.le_trans (Nat.mul_le_mul_left _ hb) (by omega)
theorem x_iconst (npc : Nat) (hB : xB p s m args meth c E A own cc nL ret mn hs) {z : Int} {v : Int32} (hd : decode cc pc = .ok (.iconst z, 1)) (hn : pc + 1 = npc) (hv : Int32.ofInt z = v) (kk : xW p l e R s m args below meth c nL E B A k n Q ws npc lv (.int v :: rest)) : xW p l e R s m args below meth c nL E B A k n Q ws pc lv (rest) := fun H locs ls hl hP hD hS => by
  subst hn
  exact lv_iconst hB.qx hB.qb hd hv (kk H locs ls hl hP hD hS)
theorem x_bipush (npc : Nat) (hB : xB p s m args meth c E A own cc nL ret mn hs) {z : Int} {v : Int32} (hd : decode cc pc = .ok (.bipush z, 2)) (hn : pc + 2 = npc) (hv : (Int8.ofInt z).toInt32 = v) (kk : xW p l e R s m args below meth c nL E B A k n Q ws npc lv (.int v :: rest)) : xW p l e R s m args below meth c nL E B A k n Q ws pc lv (rest) := fun H locs ls hl hP hD hS => by
  subst hn
  exact lv_bipush hB.qx hB.qb hd hv (kk H locs ls hl hP hD hS)
theorem x_sipush (npc : Nat) (hB : xB p s m args meth c E A own cc nL ret mn hs) {z : Int} {v : Int32} (hd : decode cc pc = .ok (.sipush z, 3)) (hn : pc + 3 = npc) (hv : (Int16.ofInt z).toInt32 = v) (kk : xW p l e R s m args below meth c nL E B A k n Q ws npc lv (.int v :: rest)) : xW p l e R s m args below meth c nL E B A k n Q ws pc lv (rest) := fun H locs ls hl hP hD hS => by
  subst hn
  exact lv_sipush hB.qx hB.qb hd hv (kk H locs ls hl hP hD hS)
theorem x_lconst (npc : Nat) (hB : xB p s m args meth c E A own cc nL ret mn hs) {z : Fin 2} {v : Int64} (hd : decode cc pc = .ok (.lconst z, 1)) (hn : pc + 1 = npc) (hv : Int64.ofNat (z : Nat) = v) (kk : xW p l e R s m args below meth c nL E B A k n Q ws npc lv (.long v :: rest)) : xW p l e R s m args below meth c nL E B A k n Q ws pc lv (rest) := fun H locs ls hl hP hD hS => by
  subst hn
  exact lv_lconst hB.qx hB.qb hd hv (kk H locs ls hl hP hD hS)
theorem x_ldc (npc : Nat) (hB : xB p s m args meth c E A own cc nL ret mn hs) {z : Nat} {v : Int32} (hd : decode cc pc = .ok (.ldc z, 2)) (hn : pc + 2 = npc) (hw : Cond.constant own z v ∈ xG) (kk : xW p l e R s m args below meth c nL E B A k n Q ws npc lv (.int v :: rest)) : xW p l e R s m args below meth c nL E B A k n Q ws pc lv (rest) := fun H locs ls hl hP hD hS => by
  subst hn
  exact lv_ldc hB.qx hB.qb hB.qo (hB.qt _ hw) hd (kk H locs ls hl hP hD hS)
theorem x_ldc2 (npc : Nat) (hB : xB p s m args meth c E A own cc nL ret mn hs) {z : Nat} {v : Int64} (hd : decode cc pc = .ok (.ldc2_w z, 3)) (hn : pc + 3 = npc) (hw : Cond.constantLong own z v ∈ xG) (kk : xW p l e R s m args below meth c nL E B A k n Q ws npc lv (.long v :: rest)) : xW p l e R s m args below meth c nL E B A k n Q ws pc lv (rest) := fun H locs ls hl hP hD hS => by
  subst hn
  exact lv_ldc2 hB.qx hB.qb hB.qo (hB.qt _ hw) hd (kk H locs ls hl hP hD hS)
theorem x_null (npc : Nat) (hB : xB p s m args meth c E A own cc nL ret mn hs)  (hd : decode cc pc = .ok (.aconst_null, 1)) (hn : pc + 1 = npc)  (kk : xW p l e R s m args below meth c nL E B A k n Q ws npc lv (.null :: rest)) : xW p l e R s m args below meth c nL E B A k n Q ws pc lv (rest) := fun H locs ls hl hP hD hS => by
  subst hn
  exact lv_null hB.qx hB.qb hd (kk H locs ls hl hP hD hS)
theorem x_lk {ls : Array Slot} {nL : Nat} {lv : List (Nat × Value)} (h : lv_has ls nL lv) {i : Nat} {v : Value} (hk : List.lookup i lv = some v) : ls[i]? = some (.val v) := by
  refine h.2.2 (i, v) ?_
  clear h
  induction lv with
  | nil => simp at hk
  | cons q t ih =>
    obtain ⟨j, w⟩ := q
    rw [List.lookup_cons] at hk
    by_cases hj : i = j
    · subst hj
      simp at hk
      subst hk
      exact List.mem_cons_self
    · have hb : (i == j) = false := by simpa using hj
      rw [hb] at hk
      exact List.mem_cons_of_mem _ (ih hk)
theorem x_iload_n (npc : Nat) (hB : xB p s m args meth c E A own cc nL ret mn hs) {z : Fin 4} {v : Int32} (hd : decode cc pc = .ok (.iload_n z, 1)) (hn : pc + 1 = npc) (hk : List.lookup (z : Nat) lv = some (.int v)) (kk : xW p l e R s m args below meth c nL E B A k n Q ws npc lv (.int v :: rest)) : xW p l e R s m args below meth c nL E B A k n Q ws pc lv (rest) := fun H locs ls hl hP hD hS => by
  subst hn
  exact lv_iload_n hB.qx hB.qb hd rfl (x_lk hl hk) (kk H locs ls hl hP hD hS)
theorem x_iload (npc : Nat) (hB : xB p s m args meth c E A own cc nL ret mn hs) {z : Nat} {v : Int32} (hd : decode cc pc = .ok (.iload z, 2)) (hn : pc + 2 = npc) (hk : List.lookup z lv = some (.int v)) (kk : xW p l e R s m args below meth c nL E B A k n Q ws npc lv (.int v :: rest)) : xW p l e R s m args below meth c nL E B A k n Q ws pc lv (rest) := fun H locs ls hl hP hD hS => by
  subst hn
  exact lv_iload hB.qx hB.qb hd (x_lk hl hk) (kk H locs ls hl hP hD hS)
theorem x_lload_n (npc : Nat) (hB : xB p s m args meth c E A own cc nL ret mn hs) {z : Fin 4} {v : Int64} (hd : decode cc pc = .ok (.lload_n z, 1)) (hn : pc + 1 = npc) (hk : List.lookup (z : Nat) lv = some (.long v)) (kk : xW p l e R s m args below meth c nL E B A k n Q ws npc lv (.long v :: rest)) : xW p l e R s m args below meth c nL E B A k n Q ws pc lv (rest) := fun H locs ls hl hP hD hS => by
  subst hn
  exact lv_lload_n hB.qx hB.qb hd rfl (x_lk hl hk) (kk H locs ls hl hP hD hS)
theorem x_lload (npc : Nat) (hB : xB p s m args meth c E A own cc nL ret mn hs) {z : Nat} {v : Int64} (hd : decode cc pc = .ok (.lload z, 2)) (hn : pc + 2 = npc) (hk : List.lookup z lv = some (.long v)) (kk : xW p l e R s m args below meth c nL E B A k n Q ws npc lv (.long v :: rest)) : xW p l e R s m args below meth c nL E B A k n Q ws pc lv (rest) := fun H locs ls hl hP hD hS => by
  subst hn
  exact lv_lload hB.qx hB.qb hd (x_lk hl hk) (kk H locs ls hl hP hD hS)
theorem x_aload_n (npc : Nat) (hB : xB p s m args meth c E A own cc nL ret mn hs) {z : Fin 4} {v : Nat} (hd : decode cc pc = .ok (.aload_n z, 1)) (hn : pc + 1 = npc) (hk : List.lookup (z : Nat) lv = some (.ref v)) (kk : xW p l e R s m args below meth c nL E B A k n Q ws npc lv (.ref v :: rest)) : xW p l e R s m args below meth c nL E B A k n Q ws pc lv (rest) := fun H locs ls hl hP hD hS => by
  subst hn
  exact lv_aload_n hB.qx hB.qb hd rfl (x_lk hl hk) (kk H locs ls hl hP hD hS)
theorem x_aload (npc : Nat) (hB : xB p s m args meth c E A own cc nL ret mn hs) {z : Nat} {v : Nat} (hd : decode cc pc = .ok (.aload z, 2)) (hn : pc + 2 = npc) (hk : List.lookup z lv = some (.ref v)) (kk : xW p l e R s m args below meth c nL E B A k n Q ws npc lv (.ref v :: rest)) : xW p l e R s m args below meth c nL E B A k n Q ws pc lv (rest) := fun H locs ls hl hP hD hS => by
  subst hn
  exact lv_aload hB.qx hB.qb hd (x_lk hl hk) (kk H locs ls hl hP hD hS)
theorem x_aload_nN (npc : Nat) (hB : xB p s m args meth c E A own cc nL ret mn hs) {z : Fin 4} (hd : decode cc pc = .ok (.aload_n z, 1)) (hn : pc + 1 = npc) (hk : List.lookup (z : Nat) lv = some .null) (kk : xW p l e R s m args below meth c nL E B A k n Q ws npc lv (.null :: rest)) : xW p l e R s m args below meth c nL E B A k n Q ws pc lv (rest) := fun H locs ls hl hP hD hS => by
  subst hn
  exact lv_aload_nN hB.qx hB.qb hd rfl (x_lk hl hk) (kk H locs ls hl hP hD hS)
theorem x_istore_n (npc : Nat) (hB : xB p s m args meth c E A own cc nL ret mn hs) {z : Fin 4} {v : Int32} {lv' : List (Nat × Value)} (hd : decode cc pc = .ok (.istore_n z, 1)) (hn : pc + 1 = npc) (hi : (z : Nat) < nL) (hl' : ((z : Nat), Value.int v) :: lv.filter (fun q => !(q.1 == (z : Nat)) && !(q.1 + 1 == (z : Nat) && q.2.category == 2)) = lv') (kk : xW p l e R s m args below meth c nL E B A k n Q ws npc lv' rest) : xW p l e R s m args below meth c nL E B A k n Q ws pc lv (.int v :: rest) := fun H locs ls hl hP hD hS => by
  subst hn
  exact lv_istore_n hB.qx hB.qb hd rfl hl hi hl' (fun ls' hl' => kk H locs ls' hl' hP hD hS)
theorem x_istore (npc : Nat) (hB : xB p s m args meth c E A own cc nL ret mn hs) {z : Nat} {v : Int32} {lv' : List (Nat × Value)} (hd : decode cc pc = .ok (.istore z, 2)) (hn : pc + 2 = npc) (hi : z < nL) (hl' : (z, Value.int v) :: lv.filter (fun q => !(q.1 == z) && !(q.1 + 1 == z && q.2.category == 2)) = lv') (kk : xW p l e R s m args below meth c nL E B A k n Q ws npc lv' rest) : xW p l e R s m args below meth c nL E B A k n Q ws pc lv (.int v :: rest) := fun H locs ls hl hP hD hS => by
  subst hn
  exact lv_istore hB.qx hB.qb hd hl hi hl' (fun ls' hl' => kk H locs ls' hl' hP hD hS)
theorem x_astore_n (npc : Nat) (hB : xB p s m args meth c E A own cc nL ret mn hs) {z : Fin 4} {v : Nat} {lv' : List (Nat × Value)} (hd : decode cc pc = .ok (.astore_n z, 1)) (hn : pc + 1 = npc) (hi : (z : Nat) < nL) (hl' : ((z : Nat), Value.ref v) :: lv.filter (fun q => !(q.1 == (z : Nat)) && !(q.1 + 1 == (z : Nat) && q.2.category == 2)) = lv') (kk : xW p l e R s m args below meth c nL E B A k n Q ws npc lv' rest) : xW p l e R s m args below meth c nL E B A k n Q ws pc lv (.ref v :: rest) := fun H locs ls hl hP hD hS => by
  subst hn
  exact lv_astore_n hB.qx hB.qb hd rfl hl hi hl' (fun ls' hl' => kk H locs ls' hl' hP hD hS)
theorem x_astore (npc : Nat) (hB : xB p s m args meth c E A own cc nL ret mn hs) {z : Nat} {v : Nat} {lv' : List (Nat × Value)} (hd : decode cc pc = .ok (.astore z, 2)) (hn : pc + 2 = npc) (hi : z < nL) (hl' : (z, Value.ref v) :: lv.filter (fun q => !(q.1 == z) && !(q.1 + 1 == z && q.2.category == 2)) = lv') (kk : xW p l e R s m args below meth c nL E B A k n Q ws npc lv' rest) : xW p l e R s m args below meth c nL E B A k n Q ws pc lv (.ref v :: rest) := fun H locs ls hl hP hD hS => by
  subst hn
  exact lv_astore hB.qx hB.qb hd hl hi hl' (fun ls' hl' => kk H locs ls' hl' hP hD hS)
theorem x_lstore_n (npc : Nat) (hB : xB p s m args meth c E A own cc nL ret mn hs) {z : Fin 4} {v : Int64} {lv' : List (Nat × Value)} (hd : decode cc pc = .ok (.lstore_n z, 1)) (hn : pc + 1 = npc) (hi : (z : Nat) + 1 < nL) (hl' : ((z : Nat), Value.long v) :: lv.filter (fun q => !(q.1 == (z : Nat)) && (!(q.1 == (z : Nat) + 1) && !(q.1 + 1 == (z : Nat) && q.2.category == 2))) = lv') (kk : xW p l e R s m args below meth c nL E B A k n Q ws npc lv' rest) : xW p l e R s m args below meth c nL E B A k n Q ws pc lv (.long v :: rest) := fun H locs ls hl hP hD hS => by
  subst hn
  exact lv_lstore_n hB.qx hB.qb hd rfl hl hi hl' (fun ls' hl' => kk H locs ls' hl' hP hD hS)
theorem x_lstore (npc : Nat) (hB : xB p s m args meth c E A own cc nL ret mn hs) {z : Nat} {v : Int64} {lv' : List (Nat × Value)} (hd : decode cc pc = .ok (.lstore z, 2)) (hn : pc + 2 = npc) (hi : z + 1 < nL) (hl' : (z, Value.long v) :: lv.filter (fun q => !(q.1 == z) && (!(q.1 == z + 1) && !(q.1 + 1 == z && q.2.category == 2))) = lv') (kk : xW p l e R s m args below meth c nL E B A k n Q ws npc lv' rest) : xW p l e R s m args below meth c nL E B A k n Q ws pc lv (.long v :: rest) := fun H locs ls hl hP hD hS => by
  subst hn
  exact lv_lstore hB.qx hB.qb hd hl hi hl' (fun ls' hl' => kk H locs ls' hl' hP hD hS)
theorem x_iinc (npc : Nat) (hB : xB p s m args meth c E A own cc nL ret mn hs) {z : Nat} {d : Int} {x v : Int32} {lv' : List (Nat × Value)} (hd : decode cc pc = .ok (.iinc z d, 3)) (hn : pc + 3 = npc) (kp : Nat) (hk : lv[kp]? = some (z, .int x)) (hv : x + Int32.ofInt d = v) (hi : z < nL) (hl' : (z, Value.int v) :: lv.filter (fun q => !(q.1 == z) && !(q.1 + 1 == z && q.2.category == 2)) = lv') (kk : xW p l e R s m args below meth c nL E B A k n Q ws npc lv' rest) : xW p l e R s m args below meth c nL E B A k n Q ws pc lv rest := fun H locs ls hl hP hD hS => by
  subst hn
  exact lv_iinc hB.qx hB.qb hd hl hk hv hi hl' (fun ls' hl' => kk H locs ls' hl' hP hD hS)
theorem x_iadd (npc : Nat) (hB : xB p s m args meth c E A own cc nL ret mn hs) {x y : Int32} (hd : decode cc pc = .ok (.iadd, 1)) (hn : pc + 1 = npc)  (kk : xW p l e R s m args below meth c nL E B A k n Q ws npc lv (.int (x + y) :: rest)) : xW p l e R s m args below meth c nL E B A k n Q ws pc lv (.int y :: .int x :: rest) := fun H locs ls hl hP hD hS => by
  subst hn
  exact lv_iadd hB.qx hB.qb hd (kk H locs ls hl hP hD hS)
theorem x_isub (npc : Nat) (hB : xB p s m args meth c E A own cc nL ret mn hs) {x y : Int32} (hd : decode cc pc = .ok (.isub, 1)) (hn : pc + 1 = npc)  (kk : xW p l e R s m args below meth c nL E B A k n Q ws npc lv (.int (x - y) :: rest)) : xW p l e R s m args below meth c nL E B A k n Q ws pc lv (.int y :: .int x :: rest) := fun H locs ls hl hP hD hS => by
  subst hn
  exact lv_isub hB.qx hB.qb hd (kk H locs ls hl hP hD hS)
theorem x_imul (npc : Nat) (hB : xB p s m args meth c E A own cc nL ret mn hs) {x y : Int32} (hd : decode cc pc = .ok (.imul, 1)) (hn : pc + 1 = npc)  (kk : xW p l e R s m args below meth c nL E B A k n Q ws npc lv (.int (x * y) :: rest)) : xW p l e R s m args below meth c nL E B A k n Q ws pc lv (.int y :: .int x :: rest) := fun H locs ls hl hP hD hS => by
  subst hn
  exact lv_imul hB.qx hB.qb hd (kk H locs ls hl hP hD hS)
theorem x_iand (npc : Nat) (hB : xB p s m args meth c E A own cc nL ret mn hs) {x y : Int32} (hd : decode cc pc = .ok (.iand, 1)) (hn : pc + 1 = npc)  (kk : xW p l e R s m args below meth c nL E B A k n Q ws npc lv (.int (x &&& y) :: rest)) : xW p l e R s m args below meth c nL E B A k n Q ws pc lv (.int y :: .int x :: rest) := fun H locs ls hl hP hD hS => by
  subst hn
  exact lv_iand hB.qx hB.qb hd (kk H locs ls hl hP hD hS)
theorem x_ior (npc : Nat) (hB : xB p s m args meth c E A own cc nL ret mn hs) {x y : Int32} (hd : decode cc pc = .ok (.ior, 1)) (hn : pc + 1 = npc)  (kk : xW p l e R s m args below meth c nL E B A k n Q ws npc lv (.int (x ||| y) :: rest)) : xW p l e R s m args below meth c nL E B A k n Q ws pc lv (.int y :: .int x :: rest) := fun H locs ls hl hP hD hS => by
  subst hn
  exact lv_ior hB.qx hB.qb hd (kk H locs ls hl hP hD hS)
theorem x_ixor (npc : Nat) (hB : xB p s m args meth c E A own cc nL ret mn hs) {x y : Int32} (hd : decode cc pc = .ok (.ixor, 1)) (hn : pc + 1 = npc)  (kk : xW p l e R s m args below meth c nL E B A k n Q ws npc lv (.int (x ^^^ y) :: rest)) : xW p l e R s m args below meth c nL E B A k n Q ws pc lv (.int y :: .int x :: rest) := fun H locs ls hl hP hD hS => by
  subst hn
  exact lv_ixor hB.qx hB.qb hd (kk H locs ls hl hP hD hS)
theorem x_idiv (npc : Nat) (hB : xB p s m args meth c E A own cc nL ret mn hs) {x y : Int32} (hd : decode cc pc = .ok (.idiv, 1)) (hn : pc + 1 = npc) (h0 : ¬ y = 0) (kk : xW p l e R s m args below meth c nL E B A k n Q ws npc lv (.int (x / y) :: rest)) : xW p l e R s m args below meth c nL E B A k n Q ws pc lv (.int y :: .int x :: rest) := fun H locs ls hl hP hD hS => by
  subst hn
  exact lv_idiv hB.qx hB.qb hd h0 (kk H locs ls hl hP hD hS)
theorem x_irem (npc : Nat) (hB : xB p s m args meth c E A own cc nL ret mn hs) {x y : Int32} (hd : decode cc pc = .ok (.irem, 1)) (hn : pc + 1 = npc) (h0 : ¬ y = 0) (kk : xW p l e R s m args below meth c nL E B A k n Q ws npc lv (.int (x - x / y * y) :: rest)) : xW p l e R s m args below meth c nL E B A k n Q ws pc lv (.int y :: .int x :: rest) := fun H locs ls hl hP hD hS => by
  subst hn
  exact lv_irem hB.qx hB.qb hd h0 (kk H locs ls hl hP hD hS)
theorem x_ineg (npc : Nat) (hB : xB p s m args meth c E A own cc nL ret mn hs) {x : Int32} (hd : decode cc pc = .ok (.ineg, 1)) (hn : pc + 1 = npc)  (kk : xW p l e R s m args below meth c nL E B A k n Q ws npc lv (.int (-x) :: rest)) : xW p l e R s m args below meth c nL E B A k n Q ws pc lv (.int x :: rest) := fun H locs ls hl hP hD hS => by
  subst hn
  exact lv_ineg hB.qx hB.qb hd (kk H locs ls hl hP hD hS)
theorem x_ladd (npc : Nat) (hB : xB p s m args meth c E A own cc nL ret mn hs) {x y : Int64} (hd : decode cc pc = .ok (.ladd, 1)) (hn : pc + 1 = npc)  (kk : xW p l e R s m args below meth c nL E B A k n Q ws npc lv (.long (x + y) :: rest)) : xW p l e R s m args below meth c nL E B A k n Q ws pc lv (.long y :: .long x :: rest) := fun H locs ls hl hP hD hS => by
  subst hn
  exact lv_ladd hB.qx hB.qb hd (kk H locs ls hl hP hD hS)
theorem x_lsub (npc : Nat) (hB : xB p s m args meth c E A own cc nL ret mn hs) {x y : Int64} (hd : decode cc pc = .ok (.lsub, 1)) (hn : pc + 1 = npc)  (kk : xW p l e R s m args below meth c nL E B A k n Q ws npc lv (.long (x - y) :: rest)) : xW p l e R s m args below meth c nL E B A k n Q ws pc lv (.long y :: .long x :: rest) := fun H locs ls hl hP hD hS => by
  subst hn
  exact lv_lsub hB.qx hB.qb hd (kk H locs ls hl hP hD hS)
theorem x_lmul (npc : Nat) (hB : xB p s m args meth c E A own cc nL ret mn hs) {x y : Int64} (hd : decode cc pc = .ok (.lmul, 1)) (hn : pc + 1 = npc)  (kk : xW p l e R s m args below meth c nL E B A k n Q ws npc lv (.long (x * y) :: rest)) : xW p l e R s m args below meth c nL E B A k n Q ws pc lv (.long y :: .long x :: rest) := fun H locs ls hl hP hD hS => by
  subst hn
  exact lv_lmul hB.qx hB.qb hd (kk H locs ls hl hP hD hS)
theorem x_land (npc : Nat) (hB : xB p s m args meth c E A own cc nL ret mn hs) {x y : Int64} (hd : decode cc pc = .ok (.land, 1)) (hn : pc + 1 = npc)  (kk : xW p l e R s m args below meth c nL E B A k n Q ws npc lv (.long (x &&& y) :: rest)) : xW p l e R s m args below meth c nL E B A k n Q ws pc lv (.long y :: .long x :: rest) := fun H locs ls hl hP hD hS => by
  subst hn
  exact lv_land hB.qx hB.qb hd (kk H locs ls hl hP hD hS)
theorem x_lor (npc : Nat) (hB : xB p s m args meth c E A own cc nL ret mn hs) {x y : Int64} (hd : decode cc pc = .ok (.lor, 1)) (hn : pc + 1 = npc)  (kk : xW p l e R s m args below meth c nL E B A k n Q ws npc lv (.long (x ||| y) :: rest)) : xW p l e R s m args below meth c nL E B A k n Q ws pc lv (.long y :: .long x :: rest) := fun H locs ls hl hP hD hS => by
  subst hn
  exact lv_lor hB.qx hB.qb hd (kk H locs ls hl hP hD hS)
theorem x_lxor (npc : Nat) (hB : xB p s m args meth c E A own cc nL ret mn hs) {x y : Int64} (hd : decode cc pc = .ok (.lxor, 1)) (hn : pc + 1 = npc)  (kk : xW p l e R s m args below meth c nL E B A k n Q ws npc lv (.long (x ^^^ y) :: rest)) : xW p l e R s m args below meth c nL E B A k n Q ws pc lv (.long y :: .long x :: rest) := fun H locs ls hl hP hD hS => by
  subst hn
  exact lv_lxor hB.qx hB.qb hd (kk H locs ls hl hP hD hS)
theorem x_ishl (npc : Nat) (hB : xB p s m args meth c E A own cc nL ret mn hs) {x y : Int32} (hd : decode cc pc = .ok (.ishl, 1)) (hn : pc + 1 = npc)  (kk : xW p l e R s m args below meth c nL E B A k n Q ws npc lv (.int (x <<< (y &&& 31)) :: rest)) : xW p l e R s m args below meth c nL E B A k n Q ws pc lv (.int y :: .int x :: rest) := fun H locs ls hl hP hD hS => by
  subst hn
  exact lv_ishl hB.qx hB.qb hd (kk H locs ls hl hP hD hS)
theorem x_ishr (npc : Nat) (hB : xB p s m args meth c E A own cc nL ret mn hs) {x y : Int32} (hd : decode cc pc = .ok (.ishr, 1)) (hn : pc + 1 = npc)  (kk : xW p l e R s m args below meth c nL E B A k n Q ws npc lv (.int (x >>> (y &&& 31)) :: rest)) : xW p l e R s m args below meth c nL E B A k n Q ws pc lv (.int y :: .int x :: rest) := fun H locs ls hl hP hD hS => by
  subst hn
  exact lv_ishr hB.qx hB.qb hd (kk H locs ls hl hP hD hS)
theorem x_iushr (npc : Nat) (hB : xB p s m args meth c E A own cc nL ret mn hs) {x y v : Int32} (hd : decode cc pc = .ok (.iushr, 1)) (hn : pc + 1 = npc) (hv : (x.toUInt32 >>> (y.toUInt32 &&& Int32.toUInt32 31)).toInt32 = v) (kk : xW p l e R s m args below meth c nL E B A k n Q ws npc lv (.int v :: rest)) : xW p l e R s m args below meth c nL E B A k n Q ws pc lv (.int y :: .int x :: rest) := fun H locs ls hl hP hD hS => by
  subst hn
  exact lv_iushr hB.qx hB.qb hd hv (kk H locs ls hl hP hD hS)
theorem x_lushr (npc : Nat) (hB : xB p s m args meth c E A own cc nL ret mn hs) {x v : Int64} {y : Int32} (hd : decode cc pc = .ok (.lushr, 1)) (hn : pc + 1 = npc) (hv : (x.toUInt64 >>> (y.toInt64.toUInt64 &&& Int64.toUInt64 63)).toInt64 = v) (kk : xW p l e R s m args below meth c nL E B A k n Q ws npc lv (.long v :: rest)) : xW p l e R s m args below meth c nL E B A k n Q ws pc lv (.int y :: .long x :: rest) := fun H locs ls hl hP hD hS => by
  subst hn
  exact lv_lushr hB.qx hB.qb hd hv (kk H locs ls hl hP hD hS)
theorem x_lshl (npc : Nat) (hB : xB p s m args meth c E A own cc nL ret mn hs) {x v : Int64} {y : Int32} (hd : decode cc pc = .ok (.lshl, 1)) (hn : pc + 1 = npc) (hv : x <<< (y.toInt64 &&& 63) = v) (kk : xW p l e R s m args below meth c nL E B A k n Q ws npc lv (.long v :: rest)) : xW p l e R s m args below meth c nL E B A k n Q ws pc lv (.int y :: .long x :: rest) := fun H locs ls hl hP hD hS => by
  subst hn
  exact lv_lshl hB.qx hB.qb hd hv (kk H locs ls hl hP hD hS)
theorem x_i2l (npc : Nat) (hB : xB p s m args meth c E A own cc nL ret mn hs) {x : Int32} {v : Int64} (hd : decode cc pc = .ok (.i2l, 1)) (hn : pc + 1 = npc) (hv : x.toInt64 = v) (kk : xW p l e R s m args below meth c nL E B A k n Q ws npc lv (.long v :: rest)) : xW p l e R s m args below meth c nL E B A k n Q ws pc lv (.int x :: rest) := fun H locs ls hl hP hD hS => by
  subst hn
  exact lv_i2l hB.qx hB.qb hd hv (kk H locs ls hl hP hD hS)
theorem x_l2i (npc : Nat) (hB : xB p s m args meth c E A own cc nL ret mn hs) {x : Int64} {v : Int32} (hd : decode cc pc = .ok (.l2i, 1)) (hn : pc + 1 = npc) (hv : x.toInt32 = v) (kk : xW p l e R s m args below meth c nL E B A k n Q ws npc lv (.int v :: rest)) : xW p l e R s m args below meth c nL E B A k n Q ws pc lv (.long x :: rest) := fun H locs ls hl hP hD hS => by
  subst hn
  exact lv_l2i hB.qx hB.qb hd hv (kk H locs ls hl hP hD hS)
theorem x_i2b (npc : Nat) (hB : xB p s m args meth c E A own cc nL ret mn hs) {x v : Int32} (hd : decode cc pc = .ok (.i2b, 1)) (hn : pc + 1 = npc) (hv : x.toInt8.toInt32 = v) (kk : xW p l e R s m args below meth c nL E B A k n Q ws npc lv (.int v :: rest)) : xW p l e R s m args below meth c nL E B A k n Q ws pc lv (.int x :: rest) := fun H locs ls hl hP hD hS => by
  subst hn
  exact lv_i2b hB.qx hB.qb hd hv (kk H locs ls hl hP hD hS)
theorem x_dup (npc : Nat) (hB : xB p s m args meth c E A own cc nL ret mn hs) {va : Value} (hd : decode cc pc = .ok (.dup, 1)) (hn : pc + 1 = npc) (h1 : va.category = 1) (kk : xW p l e R s m args below meth c nL E B A k n Q ws npc lv (va :: va :: rest)) : xW p l e R s m args below meth c nL E B A k n Q ws pc lv (va :: rest) := fun H locs ls hl hP hD hS => by
  subst hn
  exact lv_dup hB.qx hB.qb hd h1 (kk H locs ls hl hP hD hS)
theorem x_pop (npc : Nat) (hB : xB p s m args meth c E A own cc nL ret mn hs) {va : Value} (hd : decode cc pc = .ok (.pop, 1)) (hn : pc + 1 = npc) (h1 : va.category = 1) (kk : xW p l e R s m args below meth c nL E B A k n Q ws npc lv (rest)) : xW p l e R s m args below meth c nL E B A k n Q ws pc lv (va :: rest) := fun H locs ls hl hP hD hS => by
  subst hn
  exact lv_pop hB.qx hB.qb hd h1 (kk H locs ls hl hP hD hS)
theorem x_dup_x1 (npc : Nat) (hB : xB p s m args meth c E A own cc nL ret mn hs) {va vb : Value} (hd : decode cc pc = .ok (.dup_x1, 1)) (hn : pc + 1 = npc) (h1 : va.category = 1) (h2 : vb.category = 1) (kk : xW p l e R s m args below meth c nL E B A k n Q ws npc lv (va :: vb :: va :: rest)) : xW p l e R s m args below meth c nL E B A k n Q ws pc lv (va :: vb :: rest) := fun H locs ls hl hP hD hS => by
  subst hn
  exact lv_dup_x1 hB.qx hB.qb hd h1 h2 (kk H locs ls hl hP hD hS)
theorem x_dup_x2 (npc : Nat) (hB : xB p s m args meth c E A own cc nL ret mn hs) {va vb vc : Value} (hd : decode cc pc = .ok (.dup_x2, 1)) (hn : pc + 1 = npc) (h1 : va.category = 1) (h2 : vb.category = 1) (h3 : vc.category = 1) (kk : xW p l e R s m args below meth c nL E B A k n Q ws npc lv (va :: vb :: vc :: va :: rest)) : xW p l e R s m args below meth c nL E B A k n Q ws pc lv (va :: vb :: vc :: rest) := fun H locs ls hl hP hD hS => by
  subst hn
  exact lv_dup_x2 hB.qx hB.qb hd h1 h2 h3 (kk H locs ls hl hP hD hS)
theorem x_dup2 (npc : Nat) (hB : xB p s m args meth c E A own cc nL ret mn hs) {va vb : Value} (hd : decode cc pc = .ok (.dup2, 1)) (hn : pc + 1 = npc) (h1 : va.category = 1) (h2 : vb.category = 1) (kk : xW p l e R s m args below meth c nL E B A k n Q ws npc lv (va :: vb :: va :: vb :: rest)) : xW p l e R s m args below meth c nL E B A k n Q ws pc lv (va :: vb :: rest) := fun H locs ls hl hP hD hS => by
  subst hn
  exact lv_dup2_11 hB.qx hB.qb hd h1 h2 (kk H locs ls hl hP hD hS)
theorem x_dup2L (npc : Nat) (hB : xB p s m args meth c E A own cc nL ret mn hs) {va : Value} (hd : decode cc pc = .ok (.dup2, 1)) (hn : pc + 1 = npc) (h1 : va.category = 2) (kk : xW p l e R s m args below meth c nL E B A k n Q ws npc lv (va :: va :: rest)) : xW p l e R s m args below meth c nL E B A k n Q ws pc lv (va :: rest) := fun H locs ls hl hP hD hS => by
  subst hn
  exact lv_dup2_2 hB.qx hB.qb hd h1 (kk H locs ls hl hP hD hS)
theorem x_pop2L (npc : Nat) (hB : xB p s m args meth c E A own cc nL ret mn hs) {va : Value} (hd : decode cc pc = .ok (.pop2, 1)) (hn : pc + 1 = npc) (h1 : va.category = 2) (kk : xW p l e R s m args below meth c nL E B A k n Q ws npc lv (rest)) : xW p l e R s m args below meth c nL E B A k n Q ws pc lv (va :: rest) := fun H locs ls hl hP hD hS => by
  subst hn
  exact lv_pop2_2 hB.qx hB.qb hd h1 (kk H locs ls hl hP hD hS)
theorem x_if_eq (tgt npc : Nat) (hB : xB p s m args meth c E A own cc nL ret mn hs) {x : Int32} {off : Int} (hd : decode cc pc = .ok (.ifCond .eq off, 3)) (ht : (pc : Int) + off = (tgt : Int)) (hn : pc + 3 = npc) (kt : x = 0 → xW p l e R s m args below meth c nL E B A k n Q ws tgt lv rest) (kf : ¬ x = 0 → xW p l e R s m args below meth c nL E B A k n Q ws npc lv rest) : xW p l e R s m args below meth c nL E B A k n Q ws pc lv (.int x :: rest) := fun H locs ls hl hP hD hS => by
  subst hn
  exact lv_if_eq hB.qx hB.qb hd ht (fun h => kt h H locs ls hl hP hD hS) (fun h => kf h H locs ls hl hP hD hS)
theorem x_icmp_eq (tgt npc : Nat) (hB : xB p s m args meth c E A own cc nL ret mn hs) {x y : Int32} {off : Int} (hd : decode cc pc = .ok (.if_icmp .eq off, 3)) (ht : (pc : Int) + off = (tgt : Int)) (hn : pc + 3 = npc) (kt : x = y → xW p l e R s m args below meth c nL E B A k n Q ws tgt lv rest) (kf : ¬ x = y → xW p l e R s m args below meth c nL E B A k n Q ws npc lv rest) : xW p l e R s m args below meth c nL E B A k n Q ws pc lv (.int y :: .int x :: rest) := fun H locs ls hl hP hD hS => by
  subst hn
  exact lv_icmp_eq hB.qx hB.qb hd ht (fun h => kt h H locs ls hl hP hD hS) (fun h => kf h H locs ls hl hP hD hS)
theorem x_if_ne (tgt npc : Nat) (hB : xB p s m args meth c E A own cc nL ret mn hs) {x : Int32} {off : Int} (hd : decode cc pc = .ok (.ifCond .ne off, 3)) (ht : (pc : Int) + off = (tgt : Int)) (hn : pc + 3 = npc) (kt : ¬ x = 0 → xW p l e R s m args below meth c nL E B A k n Q ws tgt lv rest) (kf : x = 0 → xW p l e R s m args below meth c nL E B A k n Q ws npc lv rest) : xW p l e R s m args below meth c nL E B A k n Q ws pc lv (.int x :: rest) := fun H locs ls hl hP hD hS => by
  subst hn
  exact lv_if_ne hB.qx hB.qb hd ht (fun h => kt h H locs ls hl hP hD hS) (fun h => kf h H locs ls hl hP hD hS)
theorem x_icmp_ne (tgt npc : Nat) (hB : xB p s m args meth c E A own cc nL ret mn hs) {x y : Int32} {off : Int} (hd : decode cc pc = .ok (.if_icmp .ne off, 3)) (ht : (pc : Int) + off = (tgt : Int)) (hn : pc + 3 = npc) (kt : ¬ x = y → xW p l e R s m args below meth c nL E B A k n Q ws tgt lv rest) (kf : x = y → xW p l e R s m args below meth c nL E B A k n Q ws npc lv rest) : xW p l e R s m args below meth c nL E B A k n Q ws pc lv (.int y :: .int x :: rest) := fun H locs ls hl hP hD hS => by
  subst hn
  exact lv_icmp_ne hB.qx hB.qb hd ht (fun h => kt h H locs ls hl hP hD hS) (fun h => kf h H locs ls hl hP hD hS)
theorem x_if_lt (tgt npc : Nat) (hB : xB p s m args meth c E A own cc nL ret mn hs) {x : Int32} {off : Int} (hd : decode cc pc = .ok (.ifCond .lt off, 3)) (ht : (pc : Int) + off = (tgt : Int)) (hn : pc + 3 = npc) (kt : x < 0 → xW p l e R s m args below meth c nL E B A k n Q ws tgt lv rest) (kf : ¬ x < 0 → xW p l e R s m args below meth c nL E B A k n Q ws npc lv rest) : xW p l e R s m args below meth c nL E B A k n Q ws pc lv (.int x :: rest) := fun H locs ls hl hP hD hS => by
  subst hn
  exact lv_if_lt hB.qx hB.qb hd ht (fun h => kt h H locs ls hl hP hD hS) (fun h => kf h H locs ls hl hP hD hS)
theorem x_icmp_lt (tgt npc : Nat) (hB : xB p s m args meth c E A own cc nL ret mn hs) {x y : Int32} {off : Int} (hd : decode cc pc = .ok (.if_icmp .lt off, 3)) (ht : (pc : Int) + off = (tgt : Int)) (hn : pc + 3 = npc) (kt : x < y → xW p l e R s m args below meth c nL E B A k n Q ws tgt lv rest) (kf : ¬ x < y → xW p l e R s m args below meth c nL E B A k n Q ws npc lv rest) : xW p l e R s m args below meth c nL E B A k n Q ws pc lv (.int y :: .int x :: rest) := fun H locs ls hl hP hD hS => by
  subst hn
  exact lv_icmp_lt hB.qx hB.qb hd ht (fun h => kt h H locs ls hl hP hD hS) (fun h => kf h H locs ls hl hP hD hS)
theorem x_if_ge (tgt npc : Nat) (hB : xB p s m args meth c E A own cc nL ret mn hs) {x : Int32} {off : Int} (hd : decode cc pc = .ok (.ifCond .ge off, 3)) (ht : (pc : Int) + off = (tgt : Int)) (hn : pc + 3 = npc) (kt : 0 ≤ x → xW p l e R s m args below meth c nL E B A k n Q ws tgt lv rest) (kf : ¬ 0 ≤ x → xW p l e R s m args below meth c nL E B A k n Q ws npc lv rest) : xW p l e R s m args below meth c nL E B A k n Q ws pc lv (.int x :: rest) := fun H locs ls hl hP hD hS => by
  subst hn
  exact lv_if_ge hB.qx hB.qb hd ht (fun h => kt h H locs ls hl hP hD hS) (fun h => kf h H locs ls hl hP hD hS)
theorem x_icmp_ge (tgt npc : Nat) (hB : xB p s m args meth c E A own cc nL ret mn hs) {x y : Int32} {off : Int} (hd : decode cc pc = .ok (.if_icmp .ge off, 3)) (ht : (pc : Int) + off = (tgt : Int)) (hn : pc + 3 = npc) (kt : y ≤ x → xW p l e R s m args below meth c nL E B A k n Q ws tgt lv rest) (kf : ¬ y ≤ x → xW p l e R s m args below meth c nL E B A k n Q ws npc lv rest) : xW p l e R s m args below meth c nL E B A k n Q ws pc lv (.int y :: .int x :: rest) := fun H locs ls hl hP hD hS => by
  subst hn
  exact lv_icmp_ge hB.qx hB.qb hd ht (fun h => kt h H locs ls hl hP hD hS) (fun h => kf h H locs ls hl hP hD hS)
theorem x_if_gt (tgt npc : Nat) (hB : xB p s m args meth c E A own cc nL ret mn hs) {x : Int32} {off : Int} (hd : decode cc pc = .ok (.ifCond .gt off, 3)) (ht : (pc : Int) + off = (tgt : Int)) (hn : pc + 3 = npc) (kt : 0 < x → xW p l e R s m args below meth c nL E B A k n Q ws tgt lv rest) (kf : ¬ 0 < x → xW p l e R s m args below meth c nL E B A k n Q ws npc lv rest) : xW p l e R s m args below meth c nL E B A k n Q ws pc lv (.int x :: rest) := fun H locs ls hl hP hD hS => by
  subst hn
  exact lv_if_gt hB.qx hB.qb hd ht (fun h => kt h H locs ls hl hP hD hS) (fun h => kf h H locs ls hl hP hD hS)
theorem x_icmp_gt (tgt npc : Nat) (hB : xB p s m args meth c E A own cc nL ret mn hs) {x y : Int32} {off : Int} (hd : decode cc pc = .ok (.if_icmp .gt off, 3)) (ht : (pc : Int) + off = (tgt : Int)) (hn : pc + 3 = npc) (kt : y < x → xW p l e R s m args below meth c nL E B A k n Q ws tgt lv rest) (kf : ¬ y < x → xW p l e R s m args below meth c nL E B A k n Q ws npc lv rest) : xW p l e R s m args below meth c nL E B A k n Q ws pc lv (.int y :: .int x :: rest) := fun H locs ls hl hP hD hS => by
  subst hn
  exact lv_icmp_gt hB.qx hB.qb hd ht (fun h => kt h H locs ls hl hP hD hS) (fun h => kf h H locs ls hl hP hD hS)
theorem x_if_le (tgt npc : Nat) (hB : xB p s m args meth c E A own cc nL ret mn hs) {x : Int32} {off : Int} (hd : decode cc pc = .ok (.ifCond .le off, 3)) (ht : (pc : Int) + off = (tgt : Int)) (hn : pc + 3 = npc) (kt : x ≤ 0 → xW p l e R s m args below meth c nL E B A k n Q ws tgt lv rest) (kf : ¬ x ≤ 0 → xW p l e R s m args below meth c nL E B A k n Q ws npc lv rest) : xW p l e R s m args below meth c nL E B A k n Q ws pc lv (.int x :: rest) := fun H locs ls hl hP hD hS => by
  subst hn
  exact lv_if_le hB.qx hB.qb hd ht (fun h => kt h H locs ls hl hP hD hS) (fun h => kf h H locs ls hl hP hD hS)
theorem x_icmp_le (tgt npc : Nat) (hB : xB p s m args meth c E A own cc nL ret mn hs) {x y : Int32} {off : Int} (hd : decode cc pc = .ok (.if_icmp .le off, 3)) (ht : (pc : Int) + off = (tgt : Int)) (hn : pc + 3 = npc) (kt : x ≤ y → xW p l e R s m args below meth c nL E B A k n Q ws tgt lv rest) (kf : ¬ x ≤ y → xW p l e R s m args below meth c nL E B A k n Q ws npc lv rest) : xW p l e R s m args below meth c nL E B A k n Q ws pc lv (.int y :: .int x :: rest) := fun H locs ls hl hP hD hS => by
  subst hn
  exact lv_icmp_le hB.qx hB.qb hd ht (fun h => kt h H locs ls hl hP hD hS) (fun h => kf h H locs ls hl hP hD hS)
theorem x_goto (tgt : Nat) (hB : xB p s m args meth c E A own cc nL ret mn hs) {off : Int} (hd : decode cc pc = .ok (.goto off, 3)) (ht : (pc : Int) + off = (tgt : Int)) (kk : xW p l e R s m args below meth c nL E B A k n Q ws tgt lv st) : xW p l e R s m args below meth c nL E B A k n Q ws pc lv st := fun H locs ls hl hP hD hS => lv_goto hB.qx hB.qb hd ht (kk H locs ls hl hP hD hS)
theorem x_lcmp (npc : Nat) (hB : xB p s m args meth c E A own cc nL ret mn hs) {x y : Int64} (hd : decode cc pc = .ok (.lcmp, 1)) (hn : pc + 1 = npc) (kk : xW p l e R s m args below meth c nL E B A k n Q ws npc lv (.int (lg_cmp x y) :: rest)) : xW p l e R s m args below meth c nL E B A k n Q ws pc lv (.long y :: .long x :: rest) := fun H locs ls hl hP hD hS => by
  subst hn
  exact W.lcmp hB.qx hB.qb hd (kk H locs ls hl hP hD hS)
theorem x_top {v v' : Value} (h : v = v') (kk : xW p l e R s m args below meth c nL E B A k n Q ws pc lv (v' :: rest)) : xW p l e R s m args below meth c nL E B A k n Q ws pc lv (v :: rest) := h ▸ kk
theorem x_st {st' : List Value} (h : st = st') (kk : xW p l e R s m args below meth c nL E B A k n Q ws pc lv st') : xW p l e R s m args below meth c nL E B A k n Q ws pc lv st := h ▸ kk
theorem x_lv {lv' : List (Nat × Value)} (ks : List Nat) (h : lv_pick lv ks = lv') (kk : xW p l e R s m args below meth c nL E B A k n Q ws pc lv' st) : xW p l e R s m args below meth c nL E B A k n Q ws pc lv st := fun H locs ls hl hP hD hS => kk H locs ls (lv_sub hl ks h) hP hD hS
theorem x_ws {ws' : va_W} (h : ws = ws') (kk : xW p l e R s m args below meth c nL E B A k n Q ws' pc lv st) : xW p l e R s m args below meth c nL E B A k n Q ws pc lv st := h ▸ kk
theorem x_lve {lv' : List (Nat × Value)} (h : lv = lv') (kk : xW p l e R s m args below meth c nL E B A k n Q ws pc lv' st) : xW p l e R s m args below meth c nL E B A k n Q ws pc lv st := h ▸ kk
theorem x_wid {k' n' : Nat} (h1 : k ≤ k') (h2 : n ≤ n') (kk : xW p l e R s m args below meth c nL E B A k' n' Q ws pc lv st) : xW p l e R s m args below meth c nL E B A k n Q ws pc lv st := fun H locs ls hl hP hD hS => W.widen h1 h2 (kk H locs ls hl hP hD hS)
theorem x_tabOut (tgt : Nat) (hB : xB p s m args meth c E A own cc nL ret mn hs) {dflt lo hi : Int} {offs : Array Int} {len : Nat} {x : Int32} (hd : decode cc pc = .ok (.tableswitch dflt lo hi offs, len)) (h : x.toInt < lo ∨ hi < x.toInt) (ht : (pc : Int) + dflt = (tgt : Int)) (kk : xW p l e R s m args below meth c nL E B A k n Q ws tgt lv rest) : xW p l e R s m args below meth c nL E B A k n Q ws pc lv (.int x :: rest) := fun H locs ls hl hP hD hS => lv_tableOut hB.qx hB.qb hd h ht (kk H locs ls hl hP hD hS)
theorem x_tabIn (tgt : Nat) (hB : xB p s m args meth c E A own cc nL ret mn hs) {dflt lo hi off : Int} {offs : Array Int} {len : Nat} {x : Int32} (hd : decode cc pc = .ok (.tableswitch dflt lo hi offs, len)) (h1 : ¬ x.toInt < lo) (h2 : ¬ hi < x.toInt) (ho : offs[(x.toInt - lo).toNat]? = some off) (ht : (pc : Int) + off = (tgt : Int)) (kk : xW p l e R s m args below meth c nL E B A k n Q ws tgt lv rest) : xW p l e R s m args below meth c nL E B A k n Q ws pc lv (.int x :: rest) := fun H locs ls hl hP hD hS => lv_tableIn hB.qx hB.qb hd h1 h2 ho ht (kk H locs ls hl hP hD hS)
theorem x_lookup (tgt : Nat) (hB : xB p s m args meth c E A own cc nL ret mn hs) {dflt off : Int} {ps : Array (Int × Int)} {len : Nat} {x : Int32} (hd : decode cc pc = .ok (.lookupswitch dflt ps, len)) (hp : (ps.toList.zip (ps.toList.drop 1)).all (fun (a, next) => a.1 < next.1) = true) (ho : Op.lookupswitch.offset ps.toList dflt x.toInt = off) (ht : (pc : Int) + off = (tgt : Int)) (kk : xW p l e R s m args below meth c nL E B A k n Q ws tgt lv rest) : xW p l e R s m args below meth c nL E B A k n Q ws pc lv (.int x :: rest) := fun H locs ls hl hP hD hS => lv_lookup hB.qx hB.qb hd hp ho ht (kk H locs ls hl hP hD hS)
theorem x_bald (npc : Nat) (hB : xB p s m args meth c E A own cc nL ret mn hs) (q0 : Nat) {a N j : Nat} {f : Nat → Int32} (he : ws[q0]? = some (a, .inl (E.2 0, N, .inl f))) (hj : j < N) (hN : N < 2147483648) (hd : decode cc pc = .ok (.baload, 1)) (hn : pc + 1 = npc) (kk : xW p l e R s m args below meth c nL E B A k n Q ws npc lv (.int (f j) :: rest)) : xW p l e R s m args below meth c nL E B A k n Q ws pc lv (.int (nI j) :: .ref a :: rest) := fun H locs ls hl hP hD hS => by
  subst hn
  refine va_bald hB.qx hB.qb hB.qk hP q0 0 he rfl (vp_in_nI hj hN) hd ?_
  rw [nI_clamp (Nat.lt_trans hj hN)]
  exact kk H locs ls hl hP hD hS
theorem x_iald (npc : Nat) (hB : xB p s m args meth c E A own cc nL ret mn hs) (q0 : Nat) {a N j : Nat} {f : Nat → Int32} (he : ws[q0]? = some (a, .inl (E.2 1, N, .inl f))) (hj : j < N) (hN : N < 2147483648) (hd : decode cc pc = .ok (.iaload, 1)) (hn : pc + 1 = npc) (kk : xW p l e R s m args below meth c nL E B A k n Q ws npc lv (.int (f j) :: rest)) : xW p l e R s m args below meth c nL E B A k n Q ws pc lv (.int (nI j) :: .ref a :: rest) := fun H locs ls hl hP hD hS => by
  subst hn
  refine va_iald hB.qx hB.qb hB.qk hP q0 1 he rfl (vp_in_nI hj hN) hd ?_
  rw [nI_clamp (Nat.lt_trans hj hN)]
  exact kk H locs ls hl hP hD hS
theorem x_lald (npc : Nat) (hB : xB p s m args meth c E A own cc nL ret mn hs) (q0 : Nat) {a N j : Nat} {f : Nat → Int64} (he : ws[q0]? = some (a, .inl (E.2 2, N, .inr (.inl f)))) (hj : j < N) (hN : N < 2147483648) (hd : decode cc pc = .ok (.laload, 1)) (hn : pc + 1 = npc) (kk : xW p l e R s m args below meth c nL E B A k n Q ws npc lv (.long (f j) :: rest)) : xW p l e R s m args below meth c nL E B A k n Q ws pc lv (.int (nI j) :: .ref a :: rest) := fun H locs ls hl hP hD hS => by
  subst hn
  refine va_lald hB.qx hB.qb hB.qk hP q0 2 he rfl (vp_in_nI hj hN) hd ?_
  rw [nI_clamp (Nat.lt_trans hj hN)]
  exact kk H locs ls hl hP hD hS
theorem x_zald (npc : Nat) (hB : xB p s m args meth c E A own cc nL ret mn hs) (q0 : Nat) {a N j : Nat} {f : Nat → Int32} (he : ws[q0]? = some (a, .inl (E.2 3, N, .inl f))) (hj : j < N) (hN : N < 2147483648) (hd : decode cc pc = .ok (.baload, 1)) (hn : pc + 1 = npc) (kk : xW p l e R s m args below meth c nL E B A k n Q ws npc lv (.int (f j) :: rest)) : xW p l e R s m args below meth c nL E B A k n Q ws pc lv (.int (nI j) :: .ref a :: rest) := fun H locs ls hl hP hD hS => by
  subst hn
  refine va_zald hB.qx hB.qb hB.qk hP q0 3 he rfl (vp_in_nI hj hN) hd ?_
  rw [nI_clamp (Nat.lt_trans hj hN)]
  exact kk H locs ls hl hP hD hS
theorem x_bast (npc : Nat) (hB : xB p s m args meth c E A own cc nL ret mn hs) (q0 : Nat) {a N j : Nat} {f : Nat → Int32} {x x' : Int32} {ws' : va_W} (he : ws[q0]? = some (a, .inl (E.2 0, N, .inl f))) (hj : j < N) (hN : N < 2147483648) (hx : vp_nar .byte x = x') (hw : ws.set q0 (a, .inl (E.2 0, N, .inl (upd f j x'))) = ws') (hd : decode cc pc = .ok (.bastore, 1)) (hn : pc + 1 = npc) (kk : xW p l e R s m args below meth c nL E A A k n Q ws' npc lv rest) : xW p l e R s m args below meth c nL E A A k n Q ws pc lv (.int x :: .int (nI j) :: .ref a :: rest) := fun H locs ls hl hP hD hS => by
  subst hn
  subst hx
  subst hw
  refine va_bast hB.qx hB.qb hB.qk hP hD hS q0 0 he rfl (vp_in_nI hj hN) hd (fun H1 locs1 hP1 hD1 hS1 => ?_)
  rw [nI_clamp (Nat.lt_trans hj hN)] at hP1 hD1
  exact kk H1 locs1 ls hl hP1 hD1 hS1
theorem x_iast (npc : Nat) (hB : xB p s m args meth c E A own cc nL ret mn hs) (q0 : Nat) {a N j : Nat} {f : Nat → Int32} {x x' : Int32} {ws' : va_W} (he : ws[q0]? = some (a, .inl (E.2 1, N, .inl f))) (hj : j < N) (hN : N < 2147483648) (hx : x = x') (hw : ws.set q0 (a, .inl (E.2 1, N, .inl (upd f j x'))) = ws') (hd : decode cc pc = .ok (.iastore, 1)) (hn : pc + 1 = npc) (kk : xW p l e R s m args below meth c nL E A A k n Q ws' npc lv rest) : xW p l e R s m args below meth c nL E A A k n Q ws pc lv (.int x :: .int (nI j) :: .ref a :: rest) := fun H locs ls hl hP hD hS => by
  subst hn
  subst hx
  subst hw
  refine va_iast hB.qx hB.qb hB.qk hP hD hS q0 1 he rfl (vp_in_nI hj hN) hd (fun H1 locs1 hP1 hD1 hS1 => ?_)
  rw [nI_clamp (Nat.lt_trans hj hN)] at hP1 hD1
  exact kk H1 locs1 ls hl hP1 hD1 hS1
theorem x_last (npc : Nat) (hB : xB p s m args meth c E A own cc nL ret mn hs) (q0 : Nat) {a N j : Nat} {f : Nat → Int64} {x x' : Int64} {ws' : va_W} (he : ws[q0]? = some (a, .inl (E.2 2, N, .inr (.inl f)))) (hj : j < N) (hN : N < 2147483648) (hx : x = x') (hw : ws.set q0 (a, .inl (E.2 2, N, .inr (.inl (vp_updL f j x')))) = ws') (hd : decode cc pc = .ok (.lastore, 1)) (hn : pc + 1 = npc) (kk : xW p l e R s m args below meth c nL E A A k n Q ws' npc lv rest) : xW p l e R s m args below meth c nL E A A k n Q ws pc lv (.long x :: .int (nI j) :: .ref a :: rest) := fun H locs ls hl hP hD hS => by
  subst hn
  subst hx
  subst hw
  refine va_last hB.qx hB.qb hB.qk hP hD hS q0 2 he rfl (vp_in_nI hj hN) hd (fun H1 locs1 hP1 hD1 hS1 => ?_)
  rw [nI_clamp (Nat.lt_trans hj hN)] at hP1 hD1
  exact kk H1 locs1 ls hl hP1 hD1 hS1
theorem x_zast (npc : Nat) (hB : xB p s m args meth c E A own cc nL ret mn hs) (q0 : Nat) {a N j : Nat} {f : Nat → Int32} {x x' : Int32} {ws' : va_W} (he : ws[q0]? = some (a, .inl (E.2 3, N, .inl f))) (hj : j < N) (hN : N < 2147483648) (hx : vp_nar .boolean x = x') (hw : ws.set q0 (a, .inl (E.2 3, N, .inl (upd f j x'))) = ws') (hd : decode cc pc = .ok (.bastore, 1)) (hn : pc + 1 = npc) (kk : xW p l e R s m args below meth c nL E A A k n Q ws' npc lv rest) : xW p l e R s m args below meth c nL E A A k n Q ws pc lv (.int x :: .int (nI j) :: .ref a :: rest) := fun H locs ls hl hP hD hS => by
  subst hn
  subst hx
  subst hw
  refine va_zast hB.qx hB.qb hB.qk hP hD hS q0 3 he rfl (vp_in_nI hj hN) hd (fun H1 locs1 hP1 hD1 hS1 => ?_)
  rw [nI_clamp (Nat.lt_trans hj hN)] at hP1 hD1
  exact kk H1 locs1 ls hl hP1 hD1 hS1
def xSame (ref dc n d : String) : Prop := dc = ref ∨ Cond.sameField ref dc n d ∈ xG
def xFg (own : String) (idx ci kf : Nat) : Prop := ∃ (C : String) (T : u_T) (N : Nat) (ref : String), vwCl[ci]? = some (C, T, N) ∧ (∀ w ∈ u_ws C T N, w ∈ xG) ∧ kf < N ∧ Cond.fieldLink own idx ref (T kf).2.1 (T kf).2.2.1 ∈ xG ∧ xSame ref (T kf).1 (T kf).2.1 (T kf).2.2.1
def xFp (own : String) (idx ci kf : Nat) (fin : Bool) (ty : FieldType) : Prop := ∃ (C : String) (T : u_T) (N : Nat) (ref : String) (ty0 : Nat → FieldType), vwCl[ci]? = some (C, T, N) ∧ (∀ w ∈ u_ws C T N, w ∈ xG) ∧ kf < N ∧ Cond.fieldLink own idx ref (T kf).2.1 (T kf).2.2.1 ∈ xG ∧ xSame ref (T kf).1 (T kf).2.1 (T kf).2.2.1 ∧ (∀ k, k < N → parseFieldDescriptor (T k).2.2.1 = some (ty0 k)) ∧ (∀ a, a < N → ∀ b, b < N → a ≠ b → (T a).2.1 ≠ (T b).2.1) ∧ (T kf).2.2.2 = fin ∧ parseFieldDescriptor (T kf).2.2.1 = some ty ∧ (fin = true → (T kf).1 = own)
theorem xSame.f {args : Array Value} {s : State} {ref dc n d : String} (ht : ∀ w ∈ xG, w.before args s = true) (h : xSame ref dc n d) : ∀ x, s.fieldFound? dc n d = some x → s.fieldFound? ref n d = some x := by
  rcases h with rfl | h
  · exact fun _ h => h
  · exact fun x hx => u_same (ht _ h) x hx
theorem x_get (npc : Nat) (hB : xB p s m args meth c E A own cc nL ret mn hs) (q0 : Nat) {idx ci kf a : Nat} {fs : List Value} {v : Value} (hF : xFg own idx ci kf) (he : ws[q0]? = some (a, .inr (ci, fs))) (hv : fs[kf]? = some v) (hd : decode cc pc = .ok (.getfield idx, 3)) (hn : pc + 3 = npc) (kk : xW p l e R s m args below meth c nL E B A k n Q ws npc lv (v :: rest)) : xW p l e R s m args below meth c nL E B A k n Q ws pc lv (.ref a :: rest) := fun H locs ls hl hP hD hS => by
  subst hn
  obtain ⟨C, T, N, ref, h1, h2, h3, h4, h5⟩ := hF
  exact va_get hB.qx hB.qb hB.qt h2 hB.qo hB.qk hP q0 he h1 kf h3 (hB.qt _ h4) (xSame.f hB.qt h5) hv hd (kk H locs ls hl hP hD hS)
theorem x_put (npc : Nat) (hB : xB p s m args meth c E A own cc nL ret mn hs) (q0 : Nat) {idx ci kf a : Nat} {fs : List Value} {v : Value} {ty : FieldType} {ws' : va_W} (hF : xFp own idx ci kf false ty) (he : ws[q0]? = some (a, .inr (ci, fs))) (hv : narrow ty v = v) (hf : fits ty v = true) (hl0 : kf < fs.length) (hw : ws.set q0 (a, .inr (ci, fs.set kf v)) = ws') (hd : decode cc pc = .ok (.putfield idx, 3)) (hn : pc + 3 = npc) (kk : xW p l e R s m args below meth c nL E A A k n Q ws' npc lv rest) : xW p l e R s m args below meth c nL E A A k n Q ws pc lv (v :: .ref a :: rest) := fun H locs ls hl hP hD hS => by
  subst hn
  subst hw
  obtain ⟨C, T, N, ref, ty0, h1, h2, h3, h4, h5, h6, h7, h8, h9, -⟩ := hF
  exact va_put hB.qx hB.qb hB.qt h2 ty0 h6 h7 hB.qo hB.qk hP hD hS q0 he h1 kf h3 (hB.qt _ h4) (xSame.f hB.qt h5) h8 h9 hv hf hl0 hd (fun H1 locs1 hP1 hD1 hS1 => kk H1 locs1 ls hl hP1 hD1 hS1)
theorem x_putF (npc : Nat) (hB : xB p s m args meth c E A own cc nL ret "<init>" hs) (q0 : Nat) {idx ci kf a : Nat} {fs : List Value} {v : Value} {ty : FieldType} {ws' : va_W} (hF : xFp own idx ci kf true ty) (he : ws[q0]? = some (a, .inr (ci, fs))) (hv : narrow ty v = v) (hf : fits ty v = true) (hl0 : kf < fs.length) (hw : ws.set q0 (a, .inr (ci, fs.set kf v)) = ws') (hd : decode cc pc = .ok (.putfield idx, 3)) (hn : pc + 3 = npc) (kk : xW p l e R s m args below meth c nL E A A k n Q ws' npc lv rest) : xW p l e R s m args below meth c nL E A A k n Q ws pc lv (v :: .ref a :: rest) := fun H locs ls hl hP hD hS => by
  subst hn
  subst hw
  obtain ⟨C, T, N, ref, ty0, h1, h2, h3, h4, h5, h6, h7, h8, h9, h10⟩ := hF
  exact va_putF hB.qx hB.qb hB.qt h2 ty0 h6 h7 hB.qo hB.qk hP hD hS q0 he h1 kf h3 (hB.qt _ h4) (xSame.f hB.qt h5) h8 hB.qm (h10 rfl) h9 hv hf hl0 hd (fun H1 locs1 hP1 hD1 hS1 => kk H1 locs1 ls hl hP1 hD1 hS1)
def xCn (own : String) (idx ci N : Nat) (fs : List Value) : Prop := ∃ (C : String) (T : u_T) (ty0 : Nat → FieldType), vwCl[ci]? = some (C, T, N) ∧ (∀ w ∈ u_ws C T N, w ∈ xG) ∧ (∀ k, k < N → parseFieldDescriptor (T k).2.2.1 = some (ty0 k)) ∧ Cond.classLink own idx C ∈ xG ∧ Cond.instantiable C N ∈ xG ∧ Cond.initialized C ∈ xG ∧ ∀ j, j < N → defaultValue (ty0 j) = vp_V fs j
theorem x_new (npc : Nat) (hB : xB p s m args meth c E A own cc nL ret mn hs) {idx ci N k' n' : Nat} {fs : List Value} (hC : xCn own idx ci N fs) (hc : k + 1 ≤ R.cells) (hs' : n + N ≤ R.slots) (hk : k + 1 = k') (hn' : n + N = n') (hd : decode cc pc = .ok (.new idx, 3)) (hn : pc + 3 = npc) (kk : ∀ q : Nat, xW p l e R s m args below meth c nL E A A k' n' Q (ws ++ [(q, .inr (ci, fs))]) npc lv (.ref q :: rest)) : xW p l e R s m args below meth c nL E A A k n Q ws pc lv rest := fun H locs ls hl hP hD hS => by
  subst hn
  subst hk
  subst hn'
  obtain ⟨C, T, ty0, h1, h2, h3, h4, h5, h6, h7⟩ := hC
  exact va_new hB.qx hB.qb hB.qt h2 ty0 h3 hB.qo (hB.qt _ h4) (hB.qt _ h5) (hB.qt _ h6) hB.qk hP hD hS hB.qa h1 h7 hc hs' hd (fun q H1 hP1 hD1 hS1 => kk q H1 locs ls hl hP1 hD1 hS1)
theorem x_newB (npc : Nat) (hB : xB p s m args meth c E A own cc nL ret mn hs) {N k' n' : Nat} (hw : Cond.arrayClass .byte ∈ xG) (hN : N < 65536) (hc : k + 1 ≤ R.cells) (hs' : n + N ≤ R.slots) (hk : k + 1 = k') (hn' : n + N = n') (hd : decode cc pc = .ok (.newarray .byte, 2)) (hn : pc + 2 = npc) (kk : ∀ q : Nat, xW p l e R s m args below meth c nL E A A k' n' Q (ws ++ [(q, .inl (E.2 0, N, .inl (fun _ => 0)))]) npc lv (.ref q :: rest)) : xW p l e R s m args below meth c nL E A A k n Q ws pc lv (.int (nI N) :: rest) := fun H locs ls hl hP hD hS => by
  subst hn
  subst hk
  subst hn'
  refine va_newa (a0 := (N, .inl (fun _ => 0))) hB.qx hB.qb (atype := .byte) (hB.qt _ hw) (ty := .byte) rfl hB.qk hP hD hS hB.qa (fun cA => rfl) (nI_pos (by omega)) (nI_clamp (by omega)) (x_cb hN (by decide)) hc hs' hd (fun q cA H1 hK1 hP1 hD1 hS1 => ?_)
  have e1 : s.vm.findClass ("[" ++ (FieldType.byte).toString) = some cA := (hK1.2 4 (cA, .byte) rfl).2
  have e2 : s.vm.findClass ("[" ++ (FieldType.byte).toString) = some (E.2 0) := (hB.qk.2 0 (E.2 0, .byte) rfl).2
  have e3 : cA = E.2 0 := Option.some.inj (e1.symm.trans e2)
  subst e3
  exact kk q H1 locs ls hl hP1 hD1 hS1
theorem x_newI (npc : Nat) (hB : xB p s m args meth c E A own cc nL ret mn hs) {N k' n' : Nat} (hw : Cond.arrayClass .int ∈ xG) (hN : N < 65536) (hc : k + 1 ≤ R.cells) (hs' : n + N ≤ R.slots) (hk : k + 1 = k') (hn' : n + N = n') (hd : decode cc pc = .ok (.newarray .int, 2)) (hn : pc + 2 = npc) (kk : ∀ q : Nat, xW p l e R s m args below meth c nL E A A k' n' Q (ws ++ [(q, .inl (E.2 1, N, .inl (fun _ => 0)))]) npc lv (.ref q :: rest)) : xW p l e R s m args below meth c nL E A A k n Q ws pc lv (.int (nI N) :: rest) := fun H locs ls hl hP hD hS => by
  subst hn
  subst hk
  subst hn'
  refine va_newa (a0 := (N, .inl (fun _ => 0))) hB.qx hB.qb (atype := .int) (hB.qt _ hw) (ty := .int) rfl hB.qk hP hD hS hB.qa (fun cA => rfl) (nI_pos (by omega)) (nI_clamp (by omega)) (x_cb hN (by decide)) hc hs' hd (fun q cA H1 hK1 hP1 hD1 hS1 => ?_)
  have e1 : s.vm.findClass ("[" ++ (FieldType.int).toString) = some cA := (hK1.2 4 (cA, .int) rfl).2
  have e2 : s.vm.findClass ("[" ++ (FieldType.int).toString) = some (E.2 1) := (hB.qk.2 1 (E.2 1, .int) rfl).2
  have e3 : cA = E.2 1 := Option.some.inj (e1.symm.trans e2)
  subst e3
  exact kk q H1 locs ls hl hP1 hD1 hS1
theorem x_newJ (npc : Nat) (hB : xB p s m args meth c E A own cc nL ret mn hs) {N k' n' : Nat} (hw : Cond.arrayClass .long ∈ xG) (hN : N < 65536) (hc : k + 1 ≤ R.cells) (hs' : n + N ≤ R.slots) (hk : k + 1 = k') (hn' : n + N = n') (hd : decode cc pc = .ok (.newarray .long, 2)) (hn : pc + 2 = npc) (kk : ∀ q : Nat, xW p l e R s m args below meth c nL E A A k' n' Q (ws ++ [(q, .inl (E.2 2, N, .inr (.inl (fun _ => 0))))]) npc lv (.ref q :: rest)) : xW p l e R s m args below meth c nL E A A k n Q ws pc lv (.int (nI N) :: rest) := fun H locs ls hl hP hD hS => by
  subst hn
  subst hk
  subst hn'
  refine va_newa (a0 := (N, .inr (.inl (fun _ => 0)))) hB.qx hB.qb (atype := .long) (hB.qt _ hw) (ty := .long) rfl hB.qk hP hD hS hB.qa (fun cA => rfl) (nI_pos (by omega)) (nI_clamp (by omega)) (x_cb hN (by decide)) hc hs' hd (fun q cA H1 hK1 hP1 hD1 hS1 => ?_)
  have e1 : s.vm.findClass ("[" ++ (FieldType.long).toString) = some cA := (hK1.2 4 (cA, .long) rfl).2
  have e2 : s.vm.findClass ("[" ++ (FieldType.long).toString) = some (E.2 2) := (hB.qk.2 2 (E.2 2, .long) rfl).2
  have e3 : cA = E.2 2 := Option.some.inj (e1.symm.trans e2)
  subst e3
  exact kk q H1 locs ls hl hP1 hD1 hS1
theorem x_newZ (npc : Nat) (hB : xB p s m args meth c E A own cc nL ret mn hs) {N k' n' : Nat} (hw : Cond.arrayClass .boolean ∈ xG) (hN : N < 65536) (hc : k + 1 ≤ R.cells) (hs' : n + N ≤ R.slots) (hk : k + 1 = k') (hn' : n + N = n') (hd : decode cc pc = .ok (.newarray .boolean, 2)) (hn : pc + 2 = npc) (kk : ∀ q : Nat, xW p l e R s m args below meth c nL E A A k' n' Q (ws ++ [(q, .inl (E.2 3, N, .inl (fun _ => 0)))]) npc lv (.ref q :: rest)) : xW p l e R s m args below meth c nL E A A k n Q ws pc lv (.int (nI N) :: rest) := fun H locs ls hl hP hD hS => by
  subst hn
  subst hk
  subst hn'
  refine va_newa (a0 := (N, .inl (fun _ => 0))) hB.qx hB.qb (atype := .boolean) (hB.qt _ hw) (ty := .boolean) rfl hB.qk hP hD hS hB.qa (fun cA => rfl) (nI_pos (by omega)) (nI_clamp (by omega)) (x_cb hN (by decide)) hc hs' hd (fun q cA H1 hK1 hP1 hD1 hS1 => ?_)
  have e1 : s.vm.findClass ("[" ++ (FieldType.boolean).toString) = some cA := (hK1.2 4 (cA, .boolean) rfl).2
  have e2 : s.vm.findClass ("[" ++ (FieldType.boolean).toString) = some (E.2 3) := (hB.qk.2 3 (E.2 3, .boolean) rfl).2
  have e3 : cA = E.2 3 := Option.some.inj (e1.symm.trans e2)
  subst e3
  exact kk q H1 locs ls hl hP1 hD1 hS1
theorem x_fm {α β : Type} {f : α → Option β} : ∀ {is : List α} {w : List β}, is.map f = w.map some → is.filterMap f = w
  | [], [], _ => rfl
  | [], _ :: _, h => by simp at h
  | _ :: _, [], h => by simp at h
  | i :: is, b :: w, h => by
    simp only [List.map_cons, List.cons.injEq] at h
    rw [List.filterMap_cons, h.1]
    simp [x_fm h.2]
/-- what a code word says of its method -/
def xHd (hd : Cond) (y : MethodName) (maxL : Nat) : Prop := ∀ (args : Array Value) (s : State), hd.before args s = true → ∃ mk methY cY, s.methodNamed? y = some mk ∧ s.vm.method? mk = some methY ∧ methY.code = some cY ∧ cY.maxLocals = maxL ∧ parseMethodDescriptor y.desc = some methY.sig
theorem xHd_code {y : MethodName} {b : ByteArray} {n : Nat} {r : Option FieldType} : xHd (.code y b n r) y n := by
  intro args s h
  obtain ⟨mk, hn⟩ := Cond.code_named h
  obtain ⟨meth, c, h1, h2, -, h4, -, -, -, h8⟩ := Cond.code_spec hn h
  exact ⟨mk, meth, c, hn, h1, h2, h4, h8⟩
theorem xHd_with {y : MethodName} {b : ByteArray} {n : Nat} {r : Option FieldType} {hs : List (Nat × Nat × Nat × Nat)} : xHd (.codeWith y b n r hs) y n := by
  intro args s h
  obtain ⟨mk, meth, c, hn, h1, h2, -, h4, -, -, -, h8⟩ := Cond.codeWith_spec h
  exact ⟨mk, meth, c, hn, h1, h2, h4, h8⟩
/-- from the invoking instruction to the callee's invocation -/
def xPf (p : Program) (l : Launch) (e : Env) (R : Room) (s : State) (m : MethodId) (args : Array Value) (below : List Frame) (meth : Method) (c : Code) (nL : Nat) (E : xE) (k n : Nat) (ws : va_W) (pc : Nat) (y : MethodName) (av st rest : List Value) : Prop :=
  ∀ (H : Heap) (locs : List Loc) (ls : Array Slot) (T : State), ls.size = nL → va_P E.1 vwCl ws H → T.heap = H → Stand p l e R s m args below meth c T locs k n →
    ∃ (vm₁ : Vm) (mk : MethodId), s.WarmedH vm₁ ∧ s.methodNamed? y = some mk ∧ ∀ target, (∀ acts, Steps p.tables e below (doInvoke e ((T.setVm vm₁).setTop (F0 m pc ls rest)) acts mk av.toArray).1 target) → Steps p.tables e below (T.setTop (F0 m pc ls st)) target
/-- a call: its world cut out, its ends joined to the rest -/
theorem x_call0 (npc : Nat) (hB : xB p s m args meth c E A own cc nL ret mn hs) {y : MethodName} {hd : Cond} {rm : Room} {av : List Value} {w wr : va_W} {Post : xO → va_W → Prop} {maxL k' n' : Nat} {ig : Instr}
    (pf : xPf p l e R s m args below meth c nL E k n ws pc y av st rest) (hC : xC l E y hd rm av w Post) (hhd : hd ∈ xG) (hh : xHd hd y maxL) (hini : Cond.initialized y.cls ∈ xG)
    (isC isR : List Nat) (hw : isC.map (fun i => ws[i]?) = w.map some) (hndC : va_nd isC = true) (hr : isR.map (fun i => ws[i]?) = wr.map some) (hnd : va_nd isR = true) (hdis : ∀ i ∈ isR, i ∉ isC)
    (hR : rm.frames + 1 ≤ R.frames ∧ 8 + (maxL + 11) + rm.locals ≤ R.locals) (hkR : k + rm.cells ≤ R.cells ∧ n + rm.slots ≤ R.slots) (hk : k + rm.cells ≤ k') (hn' : n + rm.slots ≤ n')
    (hst : (rest.map fun v => v.category).sum ≤ 8) (hd0 : decode cc pc = .ok (ig, 3)) (hn : pc + 3 = npc)
    (kt : ∀ (C : String) (w' : va_W), Post (.inr C) w' → xT p l e R s m args below meth c nL E A A k' n' Q (wr ++ w') pc lv C)
    (kk : ∀ (v : Option Value) (w' : va_W), Post (.inl v) w' → xW p l e R s m args below meth c nL E A A k' n' Q (wr ++ w') npc lv (v.toList ++ rest)) : xW p l e R s m args below meth c nL E A A k n Q ws pc lv st := by
  intro H locs ls hl hP hD hS T hT X
  obtain ⟨vm₁, mk, hW₁, hnm0, hstep⟩ := pf H locs ls T hl.1 hP hT X
  have X₁ := X.noted hW₁
  have hnm : (T.setVm vm₁).methodNamed? y = some mk := X₁.named hnm0
  have hall : ∀ w ∈ hd :: xG, w.before av.toArray (T.setVm vm₁) = true := by
    intro w hw
    rcases List.mem_cons.mp hw with rfl | hw
    · exact xG_warm hhd X₁.warmed (hB.qt _ hhd)
    · exact xG_warm hw X₁.warmed (hB.qt _ hw)
  obtain ⟨mk', methY, cY, h1, h2, h3, h4, -⟩ := hh _ _ (hall hd List.mem_cons_self)
  cases hnm.symm.trans h1
  have hF := va_free (wc := w) hD hS hB.qa isC hw
  have hzz : xZ E (va_A w H.size) (T.setVm vm₁) H := ((hB.qz.kept (fun a h1 h2 => hS.2.1 a h1 h2)).narrow hF).moved X₁.warmed
  have hpre : xPre E av w H.size av.toArray (T.setVm vm₁) := by
    have hTe : (T.setVm vm₁).heap = H := hT
    refine ⟨rfl, by rw [hTe], by rw [hTe]; exact hP.sub isC (x_fm hw), va_K.moved X₁.warmed.alike hB.qk, (hD.sub isC hndC hw).weaken (fun _ _ _ _ => trivial), by rw [hTe]; exact hzz⟩
  obtain ⟨o, t, L, U', X', hL, e1, e2, hq, hsteps⟩ := x_back (hC H.size) x_blind X₁ (g := F0 m pc ls rest) rfl (hl.1.trans hB.ql.symm) (by rw [hB.qb]; exact hd0) (lv_room hst) hnm h2 h3 h4 hR.1 hR.2 hall (hall _ (List.mem_cons_of_mem _ hini)) hkR.1 hkR.2 hpre
  obtain ⟨⟨ox, w', hox, hpost, hP1, hD1⟩, hz1, hk1⟩ := hq
  have hTe : ((T.setVm vm₁).calling (F0 m pc ls rest) mk av.toArray).heap = H := hT
  rw [hTe] at hz1 hk1
  obtain ⟨hP2, hD2⟩ := va_join hP hD isC isR hw hr hnd hdis hk1 hF hP1 hD1
  have hS2 : va_S A s.heap t.heap (locs ++ L) := ⟨Nat.le_trans hS.1 hz1, fun q h1 h2 => by rw [hk1 q (Nat.lt_of_lt_of_le h1 hS.1) (fun z => h2 (hF q z))]; exact hS.2.1 q h1 h2, fun q hq => by
    rcases List.mem_append.mp hq with h | h
    · exact hS.2.2 q h
    · exact hF _ (hL q h)⟩
  have X'' := stand_widen X' hk hn'
  subst hn
  cases ox with
  | inl v =>
    have hox : o = .returned v := hox
    subst hox
    obtain ⟨t2, a1, b1⟩ := kk v w' hpost t.heap (locs ++ L) ls hl hP2 hD2 hS2 U' e1 X''
    exact ⟨t2, hstep _ (fun acts => by rw [doInvoke_state]; exact hsteps.trans a1), b1⟩
  | inr C =>
    obtain ⟨a, cell, hox, ha, hc, hcs, hcl⟩ := hox
    subst hox
    obtain ⟨t2, a1, b1⟩ := kt C w' hpost t.heap (locs ++ L) ls rest a cell hl hP2 hD2 hS2 (Nat.le_trans hS.1 ha) hc hcs (by rw [← X'.warmed.alike.findClass, e2]; exact hcl) U' e1 X''
    exact ⟨t2, hstep _ (fun acts => by rw [doInvoke_state]; exact hsteps.trans a1), b1⟩
def xNm (y : MethodName) (k : Nat) : Prop := (y.cls ≠ "java/lang/invoke/MethodHandle" ∧ y.cls ≠ "java/lang/invoke/VarHandle") ∧ (parseMethodDescriptor y.desc).map (fun d => d.parameters.length) = some k
theorem xNm.len {y : MethodName} {k : Nat} (h : xNm y k) {sig : MethodDescriptor} (hs : parseMethodDescriptor y.desc = some sig) : k = sig.parameters.length := by
  have h2 := h.2
  rw [hs] at h2
  exact (Option.some.inj h2).symm
/-- invokestatic -/
theorem x_pfS {hd : Cond} {y : MethodName} {idx maxL : Nat} {av : List Value} (hB : xB p s m args meth c E A own cc nL ret mn hs) (hhd : hd ∈ xG) (hh : xHd hd y maxL) (hini : Cond.initialized y.cls ∈ xG) (hlk : Cond.methodLink own idx y ∈ xG) (hstt : Cond.static y ∈ xG) (hy : xNm y av.length) (hst : st = av.reverse ++ rest) (hd0 : decode cc pc = .ok (.invokestatic idx, 3)) :
    xPf p l e R s m args below meth c nL E k n ws pc y av st rest := by
  intro H locs ls T hsz hP hT X
  obtain ⟨mk, methM, cM, hnamed, hmethM, -, -, hsigM⟩ := hh _ _ (hB.qt _ hhd)
  have hstatic : methM.isStatic = true := Cond.static_spec hnamed hmethM (hB.qt _ hstt)
  obtain ⟨kP, hkP, -⟩ := className_of_methodNamed hnamed
  have hinitP : kP.init = .initialized := Cond.initialized_spec (findClass_of_methodNamed hnamed) hkP (hB.qt _ hini)
  obtain ⟨vm₁, X₁, hstep₁⟩ := X.invokestatic hB.qx hB.qo (hB.qt _ hlk) hnamed hmethM hstatic hkP hinitP hy.1 (g := F0 m pc ls st) rfl (argsL := av) (rest := rest) (hy.len hsigM) hst (by rw [hB.qb]; exact hd0)
  exact ⟨vm₁, mk, X₁.warmed, hnamed, fun target h => hstep₁ _ h⟩
/-- invokevirtual of a method that the receiver's class C declares -/
theorem x_pfV {hd : Cond} {y : MethodName} {idx maxL q0 ci b N : Nat} {T0 : u_T} {C : String} {fs av : List Value} (hB : xB p s m args meth c E A own cc nL ret mn hs) (hhd : hd ∈ xG) (hh : xHd hd y maxL) (hlk : Cond.methodLink own idx y ∈ xG) (hinst : Cond.instanceMethod y ∈ xG) (hsel : Cond.selects C y y ∈ xG) (he : ws[q0]? = some (b, .inr (ci, fs))) (hc : vwCl[ci]? = some (C, T0, N)) (hy : xNm y av.length) (hst : st = av.reverse ++ .ref b :: rest) (hd0 : decode cc pc = .ok (.invokevirtual idx, 3)) :
    xPf p l e R s m args below meth c nL E k n ws pc y (.ref b :: av) st rest := by
  intro H locs ls T hsz hP hT X
  obtain ⟨cellB, hcell, hobj, hcls⟩ := va_recv hB.qk hP hc he
  obtain ⟨mk, methM, hnamed, hmethM, hstM, habM⟩ := Cond.instanceMethod_spec (hB.qt _ hinst)
  obtain ⟨mk', methM', cM, hn', hmethM', -, -, hsigM⟩ := hh _ _ (hB.qt _ hhd)
  cases hnamed.symm.trans hn'
  cases hmethM.symm.trans hmethM'
  obtain ⟨c2, r2, m2, q1, q2, q3, q4, kP, hkP, hkPi⟩ := Cond.selects_spec (hB.qt _ hsel)
  cases hcls.symm.trans q1
  cases (State.methodFound?_of_named hnamed hy.1).symm.trans q2
  cases hnamed.symm.trans q3
  have hselP : selectMethod e.platform s.vm cellB.cls mk = .method mk := by rw [Launch.admits_selectMethod X.admits]; exact q4
  obtain ⟨vm₁, X₁, hstep₁⟩ := X.invokevirtual hB.qx hB.qo (hB.qt _ hlk) hnamed hmethM hstM hkP hkPi hy.1 (a := b) (cell := cellB) (by rw [hT]; exact hcell)
    (fun z h => by rw [h] at hobj; cases hobj) hselP hmethM habM hkP hkPi (g := F0 m pc ls st) rfl (argsL := av) (rest := rest) (hy.len hsigM) hst (by rw [hB.qb]; exact hd0)
  exact ⟨vm₁, mk, X₁.warmed, hnamed, fun target h => hstep₁ _ h⟩
/-- invokevirtual through a class that inherits the method, or whose receiver overrides it -/
theorem x_pfU {hd : Cond} {x y : MethodName} {idx maxL q0 ci b N : Nat} {T0 : u_T} {C owner : String} {fs av : List Value} (hB : xB p s m args meth c E A own cc nL ret mn hs) (hhd : hd ∈ xG) (hh : xHd hd y maxL) (hlk : Cond.methodLink own idx x ∈ xG) (hsame : Cond.sameMethod x.cls owner x.name x.desc ∈ xG) (hdecl : va_Decl s ⟨owner, x.name, x.desc⟩) (hinst : Cond.instanceMethod y ∈ xG) (hsel : Cond.selects C x y ∈ xG) (he : ws[q0]? = some (b, .inr (ci, fs))) (hc : vwCl[ci]? = some (C, T0, N)) (ho : owner ≠ "java/lang/invoke/MethodHandle" ∧ owner ≠ "java/lang/invoke/VarHandle") (hy : xNm x av.length) (hst : st = av.reverse ++ .ref b :: rest) (hd0 : decode cc pc = .ok (.invokevirtual idx, 3)) :
    xPf p l e R s m args below meth c nL E k n ws pc y (.ref b :: av) st rest := by
  intro H locs ls T hsz hP hT X
  obtain ⟨cellB, hcell, hobj, hcls⟩ := va_recv hB.qk hP hc he
  obtain ⟨r0, r, hn, hrm, hstR, hsigR⟩ := hdecl
  obtain ⟨cn, ck, r1, hcn, hck, hni, hf, hn1⟩ := Cond.sameMethod_found (hB.qt _ hsame)
  cases hn.symm.trans hn1
  obtain ⟨mk, methM, hnamed, hmethM, -, habM⟩ := Cond.instanceMethod_spec (hB.qt _ hinst)
  obtain ⟨c2, r2, m2, q1, q2, q3, q4, kP, hkP, hkPi⟩ := Cond.selects_spec (hB.qt _ hsel)
  cases hcls.symm.trans q1
  cases hf.symm.trans q2
  cases hnamed.symm.trans q3
  have hselP : selectMethod e.platform s.vm cellB.cls r0 = .method mk := by rw [Launch.admits_selectMethod X.admits]; exact q4
  obtain ⟨vm₁, X₁, hstep₁⟩ := X.invokevirtualUp hB.qx hB.qo (hB.qt _ hlk) (hB.qt _ hsame) ho hn hrm hstR (a := b) (cell := cellB) (by rw [hT]; exact hcell)
    (fun z h => by rw [h] at hobj; cases hobj) hselP hmethM habM hkP hkPi (g := F0 m pc ls st) rfl (argsL := av) (rest := rest) (hy.len hsigR) hst (by rw [hB.qb]; exact hd0)
  exact ⟨vm₁, mk, X₁.warmed, hnamed, fun target h => hstep₁ _ h⟩
/-- invokespecial of a constructor -/
theorem x_pfI {y : MethodName} {idx maxL b : Nat} {bytes : ByteArray} {av : List Value} (hB : xB p s m args meth c E A own cc nL ret mn hs) (hhd : Cond.code y bytes maxL none ∈ xG) (hlk : Cond.methodLink own idx y ∈ xG) (hinst : Cond.instanceMethod y ∈ xG) (hy1 : y.name = "<init>") (hy : xNm y av.length) (hst : st = av.reverse ++ .ref b :: rest) (hd0 : decode cc pc = .ok (.invokespecial idx, 3)) :
    xPf p l e R s m args below meth c nL E k n ws pc y (.ref b :: av) st rest := by
  intro H locs ls T hsz hP hT X
  have hpl : e.platform.magicAccessors = ({} : Platform).magicAccessors := by rw [X.admits.platform]
  obtain ⟨mk, methM, cM, kP, vm₁, hnamed, hmethM, hcodeM, -, hlocalsM, -, hkP, -, hW₁, hstep₁⟩ := Steps.initColdArgs (e := e) X.here hB.qx X.warmed hpl hB.qo hy1 hy.1 (hB.qt _ hlk) (hB.qt _ hinst) (hB.qt _ hhd) (f := F0 m pc ls st) rfl (fun sig h => hy.len h) hst (by rw [hB.qb]; exact hd0)
  exact ⟨vm₁, mk, hW₁, hnamed, fun target h => hstep₁ _ h⟩
theorem x_mono {H : Heap} {locs : List Loc} {g : JFrame} {Q' : State → Prop} (h : ∀ t, Q t → Q' t) (w : W p l e R s m args below meth c H locs k n Q g) : W p l e R s m args below meth c H locs k n Q' g := fun T hT X => by
  obtain ⟨t, a, b⟩ := w T hT X
  exact ⟨t, a, h t b⟩
theorem x_mq {w : va_W} {Post : xO → va_W → Prop} {t : State} (h : MQ below (xPost E w s.heap.size Post) args s k n (va_A w s.heap.size) t) : xMQ below E w args s k n Post t := by
  obtain ⟨o, h1, h2, h3, L, ⟨-, hW, hS⟩, h5⟩ := h
  exact ⟨o, h1, h2, h3, L, ⟨hW, hS⟩, h5⟩
/-- the ends -/
theorem x_ends {w w' : va_W} {Post : xO → va_W → Prop} {v : Option Value} {H : Heap} {locs : List Loc} (hA : A = va_A w s.heap.size) (is : List Nat) (hnd : va_nd is = true) (hw : is.map (fun i => ws[i]?) = w'.map some) (hp : Post (.inl v) w') (hP : va_P E.1 vwCl ws H) (hD : va_D A ws) (hS : va_S A s.heap H locs) :
    (∀ t : State, t.heap = H → s.WarmedH t.vm → xPost E w s.heap.size Post args s (.returned v) t) ∧ ∀ q ∈ locs, va_A w s.heap.size q.base := by
  subst hA
  exact ⟨fun t ht hW => ⟨⟨.inl v, w', rfl, hp, by rw [ht]; exact hP.sub is (x_fm hw), hD.sub is hnd hw⟩, hS.F ht⟩, hS.2.2⟩
theorem x_iret {v : Int32} (hB : xB p s m args meth c E A own cc nL (some .int) mn hs) {w w' : va_W} {Post : xO → va_W → Prop} {mc ms : Nat}  (hA : A = va_A w s.heap.size) (is : List Nat) (hnd : va_nd is = true) (hw : is.map (fun i => ws[i]?) = w'.map some) (hp : Post (.inl (some (.int v))) w') (hk : k ≤ mc) (hn : n ≤ ms) (hd : decode cc pc = .ok (.ireturn, 1)) : xW p l e R s m args below meth c nL E A A k n (xMQ below E w args s mc ms Post) ws pc lv [.int v] := fun H locs ls hl hP hD hS => by
  have he := x_ends (args := args) hA is hnd hw hp hP hD hS
  exact W.widen hk hn (x_mono (fun t h => x_mq h) (W.iret hB.qx hB.qb hB.qr he.1 he.2 hd hB.qn))
theorem x_zret {v : Int32}  (hB : xB p s m args meth c E A own cc nL (some .boolean) mn hs) {w w' : va_W} {Post : xO → va_W → Prop} {mc ms : Nat} (hz : narrow .boolean (.int v) = .int v) (hA : A = va_A w s.heap.size) (is : List Nat) (hnd : va_nd is = true) (hw : is.map (fun i => ws[i]?) = w'.map some) (hp : Post (.inl (some (.int v))) w') (hk : k ≤ mc) (hn : n ≤ ms) (hd : decode cc pc = .ok (.ireturn, 1)) : xW p l e R s m args below meth c nL E A A k n (xMQ below E w args s mc ms Post) ws pc lv [.int v] := fun H locs ls hl hP hD hS => by
  have he := x_ends (args := args) hA is hnd hw hp hP hD hS
  exact W.widen hk hn (x_mono (fun t h => x_mq h) (W.zret hB.qx hB.qb hB.qr hz he.1 he.2 hd hB.qn))
theorem x_lret {v : Int64} (hB : xB p s m args meth c E A own cc nL (some .long) mn hs) {w w' : va_W} {Post : xO → va_W → Prop} {mc ms : Nat}  (hA : A = va_A w s.heap.size) (is : List Nat) (hnd : va_nd is = true) (hw : is.map (fun i => ws[i]?) = w'.map some) (hp : Post (.inl (some (.long v))) w') (hk : k ≤ mc) (hn : n ≤ ms) (hd : decode cc pc = .ok (.lreturn, 1)) : xW p l e R s m args below meth c nL E A A k n (xMQ below E w args s mc ms Post) ws pc lv [.long v] := fun H locs ls hl hP hD hS => by
  have he := x_ends (args := args) hA is hnd hw hp hP hD hS
  exact W.widen hk hn (x_mono (fun t h => x_mq h) (W.lret hB.qx hB.qb hB.qr he.1 he.2 hd hB.qn))
theorem x_vret  (hB : xB p s m args meth c E A own cc nL none mn hs) {w w' : va_W} {Post : xO → va_W → Prop} {mc ms : Nat}  (hA : A = va_A w s.heap.size) (is : List Nat) (hnd : va_nd is = true) (hw : is.map (fun i => ws[i]?) = w'.map some) (hp : Post (.inl none) w') (hk : k ≤ mc) (hn : n ≤ ms) (hd : decode cc pc = .ok (.return_, 1)) : xW p l e R s m args below meth c nL E A A k n (xMQ below E w args s mc ms Post) ws pc lv [] := fun H locs ls hl hP hD hS => by
  have he := x_ends (args := args) hA is hnd hw hp hP hD hS
  exact W.widen hk hn (x_mono (fun t h => x_mq h) (W.vret hB.qx hB.qb hB.qr he.1 he.2 hd hB.qn))
theorem x_aret {C : String} {v : Nat} (hB : xB p s m args meth c E A own cc nL (some (.object C)) mn hs) {w w' : va_W} {Post : xO → va_W → Prop} {mc ms : Nat}  (hA : A = va_A w s.heap.size) (is : List Nat) (hnd : va_nd is = true) (hw : is.map (fun i => ws[i]?) = w'.map some) (hp : Post (.inl (some (.ref v))) w') (hk : k ≤ mc) (hn : n ≤ ms) (hd : decode cc pc = .ok (.areturn, 1)) : xW p l e R s m args below meth c nL E A A k n (xMQ below E w args s mc ms Post) ws pc lv [.ref v] := fun H locs ls hl hP hD hS => by
  have he := x_ends (args := args) hA is hnd hw hp hP hD hS
  exact W.widen hk hn (x_mono (fun t h => x_mq h) (W.aret hB.qx hB.qb hB.qr (Or.inl ⟨_, rfl⟩) (Or.inr ⟨_, rfl⟩) he.1 he.2 hd hB.qn))
/-- an exception leaves the method -/
theorem x_leave (hB : xB p s m args meth c E A own cc nL ret mn hs) {w w' : va_W} {Post : xO → va_W → Prop} {mc ms : Nat} {C : String} (hA : A = va_A w s.heap.size) (is : List Nat) (hnd : va_nd is = true) (hw : is.map (fun i => ws[i]?) = w'.map some) (hp : Post (.inr C) w') (hk : k ≤ mc) (hn : n ≤ ms) (hout : ∀ h ∈ hs, ¬ (h.1 ≤ pc ∧ pc < h.2.1)) :
    xT p l e R s m args below meth c nL E A A k n (xMQ below E w args s mc ms Post) ws pc lv C := by
  intro H locs ls st a cell hl hP hD hS ha hc hcs hcl T hT X
  have X' := stand_widen X hk hn
  have hout' : ∀ x ∈ c.exceptionTable.toList, covers x pc = false := by
    intro x hx
    have h1 : (x.startPc, x.endPc, x.handlerPc, x.catchType) ∈ hs := by rw [← hB.qe]; exact List.mem_map.mpr ⟨x, hx, rfl⟩
    have h2 := hout _ h1
    simp only [covers, Bool.and_eq_false_iff, decide_eq_false_iff_not]
    by_cases h3 : x.startPc ≤ pc
    · exact Or.inr (fun h4 => h2 ⟨h3, h4⟩)
    · exact Or.inl h3
  obtain ⟨hwalk, hrun, hended, hWm, hsame⟩ := X'.leaveThrown a (g := F0 m pc ls st) rfl rfl rfl hout' (hlocks := hB.qn)
  subst hA
  refine ⟨T.setFrames (.throwing a :: below), hwalk, .threw a, hrun, hended, ⟨⟨.inr C, w', ⟨a, cell, rfl, ha, by show T.heap[a]? = _; rw [hT]; exact hc, hcs, by rw [hWm.alike.findClass]; exact hcl⟩, hp, by show va_P _ _ _ T.heap; rw [hT]; exact hP.sub is (x_fm hw), hD.sub is hnd hw⟩, hS.F (show T.heap = H from hT)⟩, locs, ⟨hWm, hsame⟩, hS.2.2⟩
end XR
/-! deterministic ends, joins, loops -/
def xRet (v : Option Value) (w : va_W) : xO → va_W → Prop := fun o w' => o = .inl v ∧ w' = w
def xThr (C : String) (w : va_W) : xO → va_W → Prop := fun o w' => o = .inr C ∧ w' = w
theorem xRet_i {v : Option Value} {w : va_W} : xRet v w (.inl v) w := ⟨rfl, rfl⟩
theorem xThr_i {C : String} {w : va_W} : xThr C w (.inr C) w := ⟨rfl, rfl⟩
section XJ
variable {p : Program} {l : Launch} {e : Env} {R : Room} {s : State} {m : MethodId} {args : Array Value} {below : List Frame} {meth : Method} {c : Code} {nL : Nat} {E : xE} {B A : Nat → Prop} {k n : Nat} {Q : State → Prop} {ws : va_W} {pc : Nat} {lv : List (Nat × Value)} {st rest : List Value} {own mn : String} {cc : ByteArray} {ret : Option FieldType} {hs : List (Nat × Nat × Nat × Nat)}
theorem x_callD (npc : Nat) (hB : xB p s m args meth c E A own cc nL ret mn hs) {y : MethodName} {hd : Cond} {rm : Room} {av st' : List Value} {w wr w2 ws' : va_W} {v : Option Value} {maxL k' n' : Nat} {ig : Instr}
    (pf : xPf p l e R s m args below meth c nL E k n ws pc y av st rest) (hC : xC l E y hd rm av w (xRet v w2)) (hhd : hd ∈ xG) (hh : xHd hd y maxL) (hini : Cond.initialized y.cls ∈ xG)
    (isC isR : List Nat) (hw : isC.map (fun i => ws[i]?) = w.map some) (hndC : va_nd isC = true) (hr : isR.map (fun i => ws[i]?) = wr.map some) (hnd : va_nd isR = true) (hdis : ∀ i ∈ isR, i ∉ isC)
    (hR : rm.frames + 1 ≤ R.frames ∧ 8 + (maxL + 11) + rm.locals ≤ R.locals) (hkR : k + rm.cells ≤ R.cells ∧ n + rm.slots ≤ R.slots) (hk : k + rm.cells = k') (hn' : n + rm.slots = n')
    (hst : (rest.map fun v => v.category).sum ≤ 8) (hd0 : decode cc pc = .ok (ig, 3)) (hn : pc + 3 = npc) (hws : wr ++ w2 = ws') (hst' : v.toList ++ rest = st')
    (kk : xW p l e R s m args below meth c nL E A A k' n' Q ws' npc lv st') : xW p l e R s m args below meth c nL E A A k n Q ws pc lv st := by
  subst hws
  subst hst'
  refine x_call0 npc hB pf hC hhd hh hini isC isR hw hndC hr hnd hdis hR hkR (Nat.le_of_eq hk) (Nat.le_of_eq hn') hst hd0 hn (fun C w' h => ?_) (fun v' w' h => ?_)
  · exact absurd h.1 (by simp)
  · obtain ⟨h1, h2⟩ := h
    cases h1
    cases h2
    exact kk
theorem x_callT (hB : xB p s m args meth c E A own cc nL ret mn hs) {y : MethodName} {hd : Cond} {rm : Room} {av : List Value} {w wr w2 ws' : va_W} {C : String} {maxL k' n' : Nat} {ig : Instr}
    (pf : xPf p l e R s m args below meth c nL E k n ws pc y av st rest) (hC : xC l E y hd rm av w (xThr C w2)) (hhd : hd ∈ xG) (hh : xHd hd y maxL) (hini : Cond.initialized y.cls ∈ xG)
    (isC isR : List Nat) (hw : isC.map (fun i => ws[i]?) = w.map some) (hndC : va_nd isC = true) (hr : isR.map (fun i => ws[i]?) = wr.map some) (hnd : va_nd isR = true) (hdis : ∀ i ∈ isR, i ∉ isC)
    (hR : rm.frames + 1 ≤ R.frames ∧ 8 + (maxL + 11) + rm.locals ≤ R.locals) (hkR : k + rm.cells ≤ R.cells ∧ n + rm.slots ≤ R.slots) (hk : k + rm.cells = k') (hn' : n + rm.slots = n')
    (hst : (rest.map fun v => v.category).sum ≤ 8) (hd0 : decode cc pc = .ok (ig, 3)) (hws : wr ++ w2 = ws')
    (kt : xT p l e R s m args below meth c nL E A A k' n' Q ws' pc lv C) : xW p l e R s m args below meth c nL E A A k n Q ws pc lv st := by
  subst hws
  refine x_call0 _ hB pf hC hhd hh hini isC isR hw hndC hr hnd hdis hR hkR (Nat.le_of_eq hk) (Nat.le_of_eq hn') hst hd0 rfl (fun C w' h => ?_) (fun v' w' h => ?_)
  · obtain ⟨h1, h2⟩ := h
    cases h1
    cases h2
    exact kt
  · exact absurd h.1 (by simp)
theorem x_join {α : Type} (pcJ : Nat) (P : α → Prop) (wsF : α → va_W) (lvF : α → List (Nat × Value)) (stF : α → List Value) (kj : ∀ a, P a → xW p l e R s m args below meth c nL E B A k n Q (wsF a) pcJ (lvF a) (stF a))
    (kk : (∀ a, P a → xW p l e R s m args below meth c nL E B A k n Q (wsF a) pcJ (lvF a) (stF a)) → xW p l e R s m args below meth c nL E B A k n Q ws pc lv st) : xW p l e R s m args below meth c nL E B A k n Q ws pc lv st := kk kj
theorem x_loop {α : Type} (I : α → Prop) (μ : α → Nat) (wsF : α → va_W) (lvF : α → List (Nat × Value)) (stF : α → List Value) (a0 : α) (h0 : I a0) (hw : ws = wsF a0) (hl : lv = lvF a0) (hst : st = stF a0)
    (body : ∀ a, I a → (∀ b, I b → μ b < μ a → xW p l e R s m args below meth c nL E B A k n Q (wsF b) pc (lvF b) (stF b)) → xW p l e R s m args below meth c nL E B A k n Q (wsF a) pc (lvF a) (stF a)) : xW p l e R s m args below meth c nL E B A k n Q ws pc lv st := by
  subst hw
  subst hl
  subst hst
  have key : ∀ (d : Nat) (a : α), μ a ≤ d → I a → xW p l e R s m args below meth c nL E B A k n Q (wsF a) pc (lvF a) (stF a) := by
    intro d
    induction d with
    | zero => exact fun a h ha => body a ha (fun b _ hm => absurd hm (by omega))
    | succ d ih => exact fun a h ha => body a ha (fun b hb hm => ih b (by omega) hb)
  exact key (μ a0) a0 (Nat.le_refl _) h0
theorem x_of' {y : MethodName} {rm : Room} {av : List Value} {w : va_W} {Post : xO → va_W → Prop} (hy : plainFor y = true) (ho : y.cls = own) (hm : y.name = mn) (hsl : (lg_sl av).length ≤ nL) (hlv : lv_args 0 av = lv)
    (body : ∀ p e s m args below meth c A, A = va_A w s.heap.size → xB p s m args meth c E A own cc nL ret mn [] → xW p l e rm s m args below meth c nL E A A 0 0 (xMQ below E w args s rm.cells rm.slots Post) w 0 lv []) : xC l E y (.code y cc nL ret) rm av w Post := by
  subst ho
  subst hm
  exact x_of hy hsl hlv body
theorem x_ofH' {y : MethodName} {rm : Room} {av : List Value} {w : va_W} {Post : xO → va_W → Prop} (hy : plainFor y = true) (ho : y.cls = own) (hm : y.name = mn) (hsl : (lg_sl av).length ≤ nL) (hlv : lv_args 0 av = lv)
    (body : ∀ p e s m args below meth c A, A = va_A w s.heap.size → xB p s m args meth c E A own cc nL ret mn hs → xW p l e rm s m args below meth c nL E A A 0 0 (xMQ below E w args s rm.cells rm.slots Post) w 0 lv []) : xC l E y (.codeWith y cc nL ret hs) rm av w Post := by
  subst ho
  subst hm
  exact x_ofH hy hsl hlv body
end XJ
end
section
/-! the pure side: bits, the stirrer, rows of a line -/
def bI (b : Bool) : Int32 := if b then nI 1 else nI 0
/-- bit i of x -/
def xbit (x : Int32) (i : Nat) : Int32 := (x.toUInt32 >>> ((nI i).toUInt32 &&& Int32.toUInt32 31)).toInt32 &&& nI 1
theorem and1 (x : Int32) : x &&& nI 1 = 0 ∨ x &&& nI 1 = 1 := by
  have h := pk_and x (m := nI 1) 1 (by decide)
  rw [h]
  have : x.toBitVec.toNat % 2 ^ 1 = 0 ∨ x.toBitVec.toNat % 2 ^ 1 = 1 := by omega
  rcases this with h | h <;> rw [h]
  · exact Or.inl (by decide)
  · exact Or.inr (by decide)
theorem xbit01 (x : Int32) (i : Nat) : xbit x i = 0 ∨ xbit x i = 1 := and1 _
theorem byt01 {x : Int32} (h : x = 0 ∨ x = 1) : x.toInt8.toInt32 = x := by rcases h with h | h <;> rw [h] <;> decide
theorem nar01 {x : Int32} (h : x = 0 ∨ x = 1) : vp_nar .byte x = x := (vp_nar_byte x).trans (byt01 h)
theorem xdec {a : Nat} (h : 0 < a) : nI a - nI 1 + Int32.ofInt (-1) = nI (a - 1) - nI 1 := by
  obtain ⟨b, rfl⟩ : ∃ b, a = b + 1 := ⟨a - 1, by omega⟩
  rw [pk_sub (by omega), show b + 1 - 1 = b by omega, Int32.sub_eq_add_neg]
  rfl
theorem xneg {a : Nat} (h : nI a - nI 1 < 0) (ha : a < 2 ^ 30) : a = 0 := by
  rcases Nat.eq_zero_or_pos a with h0 | h0
  · exact h0
  · rw [pk_sub h0] at h
    exact absurd h (nI_pos (by omega))
/-- q bits of x behind the place n, the highest first: t of them -/
def apF (f : Nat → Int32) (n : Nat) (x : Int32) (q : Nat) : Nat → Nat → Int32
  | 0 => f
  | t + 1 => upd (apF f n x q t) (n + t) (xbit x (q - t - 1))
/-- the number of i bits from p on, the first the highest -/
def ahF (f : Nat → Int32) (p : Nat) : Nat → Int32
  | 0 => nI 0
  | i + 1 => (ahF f p i <<< (nI 1 &&& 31)) ||| f (p + i)
/-- ones less zeros among the first i -/
def olF (f : Nat → Int32) : Nat → Int32
  | 0 => nI 0
  | i + 1 => olF f i + (if f i = nI 1 then nI 1 else (-1 : Int32))
/-- the run that ends at i - 1, and the longest so far -/
def lrF (f : Nat → Int32) : Nat → Nat × Nat
  | 0 => (0, 0)
  | i + 1 => let r := if 0 < i ∧ f i = f (i - 1) then (lrF f i).1 + 1 else 1
    (r, if (lrF f i).2 < r then r else (lrF f i).2)
theorem lrF_le (f : Nat → Int32) : ∀ i, (lrF f i).1 ≤ i ∧ (lrF f i).2 ≤ i
  | 0 => ⟨Nat.le_refl _, Nat.le_refl _⟩
  | i + 1 => by
    have h := lrF_le f i
    simp only [lrF]
    refine ⟨?_, ?_⟩ <;> split <;> (try split) <;> omega
def turF (w : Int64) : Int32 := ((((w.toUInt64 >>> ((nI 38).toInt64.toUInt64 &&& Int64.toUInt64 63)).toInt64) ^^^ ((w.toUInt64 >>> ((nI 57).toInt64.toUInt64 &&& Int64.toUInt64 63)).toInt64)).toInt32) &&& nI 1
def remF (w : Int64) (b : Int32) : Int64 := (w <<< ((nI 1).toInt64 &&& 63)) ||| b.toInt64
end
section
theorem w_nat : Cond.native arraycopyName ∈ xG := xG_at 542 (by decide +kernel) (by decide +kernel)
section XK5
variable {p : Program} {l : Launch} {e : Env} {R : Room} {s : State} {m : MethodId} {args : Array Value} {below : List Frame} {meth : Method} {c : Code} {nL : Nat} {E : xE} {B A : Nat → Prop} {k n : Nat} {Q : State → Prop} {ws : va_W} {pc : Nat} {lv : List (Nat × Value)} {st rest : List Value} {own mn : String} {cc : ByteArray} {ret : Option FieldType} {hs : List (Nat × Nat × Nat × Nat)}
theorem x_objInit (npc : Nat) (hB : xB p s m args meth c E A own cc nL ret mn hs) {idx a : Nat} (hl0 : Cond.methodLink own idx Lib.objectInit ∈ xG) (hi0 : Cond.instanceMethod Lib.objectInit ∈ xG) (hc0 : Cond.code Lib.objectInit ⟨#[0xb1]⟩ 1 none ∈ xG) (hd : decode cc pc = .ok (.invokespecial idx, 3)) (hn : pc + 3 = npc) (hf : 1 ≤ R.frames) (hlo : (rest.map fun v => v.category).sum + 12 ≤ R.locals) (kk : xW p l e R s m args below meth c nL E B A k n Q ws npc lv rest) : xW p l e R s m args below meth c nL E B A k n Q ws pc lv (.ref a :: rest) := fun H locs ls hl hP hD hS => by
  subst hn
  exact W.objInit hB.qx hB.qb hB.qo (hB.qt _ hl0) (hB.qt _ hi0) (hB.qt _ hc0) rfl (hl.1.trans hB.ql.symm) rfl hd hf (by show 2 * 0 + _ + 12 ≤ _; omega) (kk H locs ls hl hP hD hS)
theorem x_copyB (npc : Nat) (hB : xB p s m args meth c E A own cc nL ret mn hs) (q0 : Nat) {idx a N sp dp len : Nat} {f : Nat → Int32} {ws' : va_W} (hl0 : Cond.methodLink own idx arraycopyName ∈ xG) (hs0 : Cond.static arraycopyName ∈ xG) (hi0 : Cond.initialized "java/lang/System" ∈ xG) (he : ws[q0]? = some (a, .inl (E.2 0, N, .inl f))) (hN : N < 65536) (h4 : sp + len ≤ N) (h5 : dp + len ≤ N) (hfit : ∀ i, i < len → f (sp + i) = 0 ∨ f (sp + i) = 1) (hw : ws.set q0 (a, .inl (E.2 0, N, .inl (va_cpy f f sp dp len))) = ws') (hd : decode cc pc = .ok (.invokestatic idx, 3)) (hn : pc + 3 = npc) (hf : 1 ≤ R.frames) (hlo : (rest.map fun v => v.category).sum + (nativeFrameWords "java/lang/System" "arraycopy" 5 + 11) ≤ R.locals)
    (kk : xW p l e R s m args below meth c nL E A A k n Q ws' npc lv rest) : xW p l e R s m args below meth c nL E A A k n Q ws pc lv (.int (nI len) :: .int (nI dp) :: .ref a :: .int (nI sp) :: .ref a :: rest) := fun H locs ls hl hP hD hS => by
  subst hn
  subst hw
  have c1 : (nI sp).toNatClampNeg = sp := nI_clamp (by omega)
  have c2 : (nI dp).toNatClampNeg = dp := nI_clamp (by omega)
  have c3 : (nI len).toNatClampNeg = len := nI_clamp (by omega)
  refine va_copyi (ty := .byte) hB.qx hB.qb (hB.ql.trans hl.1.symm) hB.qo (hB.qt _ hl0) (hB.qt _ w_nat) (hB.qt _ hs0) (hB.qt _ hi0) hB.qk hP hD hS q0 q0 0 0 he he rfl rfl (by decide) (nI_pos (by omega)) (nI_pos (by omega)) (nI_pos (by omega)) (by rw [c1, c3]; exact h4) (by rw [c2, c3]; exact h5) (fun i hi => ?_) hf hlo hd (fun H1 locs1 hP1 hD1 hS1 => ?_)
  · rw [c3] at hi
    rw [c1]
    rcases hfit i hi with h | h <;> rw [h] <;> decide
  · rw [c1, c2, c3] at hP1 hD1
    exact kk H1 locs1 ls hl hP1 hD1 hS1
theorem x_ldcw (npc : Nat) (hB : xB p s m args meth c E A own cc nL ret mn hs) {z : Nat} {v : Int32} (hd : decode cc pc = .ok (.ldc_w z, 3)) (hn : pc + 3 = npc) (hw : Cond.constant own z v ∈ xG) (kk : xW p l e R s m args below meth c nL E B A k n Q ws npc lv (.int v :: rest)) : xW p l e R s m args below meth c nL E B A k n Q ws pc lv rest := fun H locs ls hl hP hD hS => by
  subst hn
  exact lv_ldcw hB.qx hB.qb hB.qo (hB.qt _ hw) hd (kk H locs ls hl hP hD hS)
def xEx {α : Type} (wF : α → va_W) : xO → va_W → Prop := fun o w' => o = .inl none ∧ ∃ a, w' = wF a
theorem x_callE {α : Type} {wF : α → va_W} (npc : Nat) (hB : xB p s m args meth c E A own cc nL ret mn hs) {y : MethodName} {hd : Cond} {rm : Room} {av : List Value} {w wr : va_W} {maxL k' n' : Nat} {ig : Instr}
    (pf : xPf p l e R s m args below meth c nL E k n ws pc y av st rest) (hC : xC l E y hd rm av w (xEx wF)) (hhd : hd ∈ xG) (hh : xHd hd y maxL) (hini : Cond.initialized y.cls ∈ xG)
    (isC isR : List Nat) (hw : isC.map (fun i => ws[i]?) = w.map some) (hndC : va_nd isC = true) (hr : isR.map (fun i => ws[i]?) = wr.map some) (hnd : va_nd isR = true) (hdis : ∀ i ∈ isR, i ∉ isC)
    (hR : rm.frames + 1 ≤ R.frames ∧ 8 + (maxL + 11) + rm.locals ≤ R.locals) (hkR : k + rm.cells ≤ R.cells ∧ n + rm.slots ≤ R.slots) (hk : k + rm.cells = k') (hn' : n + rm.slots = n')
    (hst : (rest.map fun v => v.category).sum ≤ 8) (hd0 : decode cc pc = .ok (ig, 3)) (hn : pc + 3 = npc)
    (kk : ∀ a : α, xW p l e R s m args below meth c nL E A A k' n' Q (wr ++ wF a) npc lv rest) : xW p l e R s m args below meth c nL E A A k n Q ws pc lv st := by
  refine x_call0 npc hB pf hC hhd hh hini isC isR hw hndC hr hnd hdis hR hkR (Nat.le_of_eq hk) (Nat.le_of_eq hn') hst hd0 hn (fun C w' h => ?_) (fun v' w' h => ?_)
  · exact absurd h.1 (by simp)
  · obtain ⟨h1, a, h2⟩ := h
    cases h1
    cases h2
    exact kk a
end XK5
end
section
/-! pure contracts: nothing that was there is written; and throws -/
def xNew (sz : Nat) : Nat → Prop := fun q => sz ≤ q
def xPreP (E : xE) (av : List Value) (w : va_W) (sz : Nat) : Array Value → State → Prop := fun v U => v = av.toArray ∧ U.heap.size = sz ∧ va_P E.1 vwCl w U.heap ∧ va_K E.1 vwCl (xtys E) U ∧ va_D (fun _ => True) w ∧ xZ E (xNew sz) U U.heap
def xPostP (sz : Nat) (o : xO) : Array Value → State → Outcome → State → Prop := fun _ st oc t => xIs sz o oc t ∧ va_F (xNew sz) st t
def xCp (l : Launch) (E : xE) (y : MethodName) (hd : Cond) (rm : Room) (av : List Value) (w : va_W) (o : xO) : Prop :=
  ∀ sz : Nat, xMet l y (hd :: xG) rm (xPreP E av w sz) (xPostP sz o) (xNew sz)
theorem x_blindP {E : xE} {av : List Value} {w : va_W} {sz : Nat} : FrameBlind (xPreP E av w sz) := by
  intro a U g mk h
  obtain ⟨h1, h2, h3, h4, h5, h6⟩ := h
  exact ⟨h1, h2, h3, va_K.moved (u := U) (U := U.calling g mk a) (Vm.Alike.refl U.vm) h4, h5, xZ.moved (u := U) (U := U.calling g mk a) (State.WarmedH.refl U) h6⟩
def xPQ (below : List Frame) (a : Array Value) (s : State) (mc ms : Nat) (o : xO) : State → Prop := fun t =>
  ∃ oc, t.status = .running ∧ Ended t below oc ∧ xPostP s.heap.size o a s oc t ∧ ∃ L, xEnd s t L mc ms ∧ ∀ q ∈ L, xNew s.heap.size q.base
section XP
variable {p : Program} {l : Launch} {e : Env} {R : Room} {s : State} {m : MethodId} {args : Array Value} {below : List Frame} {meth : Method} {c : Code} {nL : Nat} {E : xE} {B A : Nat → Prop} {k n : Nat} {Q : State → Prop} {ws : va_W} {pc : Nat} {lv : List (Nat × Value)} {st rest : List Value} {own mn : String} {cc : ByteArray} {ret : Option FieldType} {hs : List (Nat × Nat × Nat × Nat)}
theorem x_ofP {y : MethodName} {rm : Room} {av : List Value} {w : va_W} {o : xO} (hy : plainFor y = true) (ho : y.cls = own) (hm : y.name = mn) (hsl : (lg_sl av).length ≤ nL) (hlv : lv_args 0 av = lv)
    (body : ∀ p e s m args below meth c, xB p s m args meth c E (xNew s.heap.size) own cc nL ret mn [] → xW p l e rm s m args below meth c nL E (fun _ => True) (xNew s.heap.size) 0 0 (xPQ below args s rm.cells rm.slots o) w 0 lv []) : xCp l E y (.code y cc nL ret) rm av w o := by
  subst ho
  subst hm
  intro sz
  refine MetFree.of_bodySF (code := cc) (maxLocals := nL) (ret := ret) hy ?_ ?_
  · intro args s m h hn
    obtain ⟨meth, c, h1, h2, h3, h4, h5, h6, -, -⟩ := Cond.code_spec hn (atoms_spec (ws := Cond.code y cc nL ret :: xG) h _ List.mem_cons_self)
    exact ⟨meth, c, h1, h2, h3, h4, h5, h6⟩
  · intro p e s m args below meth c s₁ B hml hP _
    obtain ⟨rfl, rfl, hP, hK, hD, hZ⟩ := hP
    have hts := atoms_spec (ws := Cond.code y cc nL ret :: xG) B.pre
    have hh0 : s₁.heap = s.heap := by rw [B.state]; rfl
    have hne : c.exceptionTable.isEmpty = true := B.noHandlers (hts _ List.mem_cons_self)
    have hl := lv_entry av (n := nL) hsl
    have K : W p l e rm s m av.toArray below meth c s.heap [] 0 0 (xPQ below av.toArray s rm.cells rm.slots o) (entryFrame m av.toArray nL) := by
      rw [lg_entry_eq]
      refine body p e s m av.toArray below meth c ⟨B.exec, B.bytes, hml, findClass_of_methodNamed B.named, fun w hw => hts w (List.mem_cons_of_mem _ hw), hK, hZ, B.returns, B.notSynchronized, fun q h => h, (name_of_methodNamed B.named B.method).1, fun q hq cell hc => absurd (Array.getElem?_eq_some_iff.mp hc).1 (by have : s.heap.size ≤ q := hq; omega), ?_⟩ s.heap [] _ ?_ hP hD va_S.rf
      · rw [show c.exceptionTable = #[] from Array.isEmpty_iff.mp hne]; rfl
      · rw [← hlv]; exact hl
    obtain ⟨t, a1, oc, b1, b2, b3, b4⟩ := K s₁ hh0 (Stand.of_body B)
    exact ⟨t, oc, a1, b1, b2, b3, b4⟩
/-- the call of a pure method, from any walk: the world stays as it is -/
theorem x_callP0 (npc : Nat) (hB : xB p s m args meth c E A own cc nL ret mn hs) {y : MethodName} {hd : Cond} {rm : Room} {av : List Value} {w : va_W} {o : xO} {maxL k' n' : Nat} {ig : Instr}
    (pf : xPf p l e R s m args below meth c nL E k n ws pc y av st rest) (hC : xCp l E y hd rm av w o) (hhd : hd ∈ xG) (hh : xHd hd y maxL) (hini : Cond.initialized y.cls ∈ xG)
    (isC : List Nat) (hw : isC.map (fun i => ws[i]?) = w.map some) (hndC : va_nd isC = true)
    (hR : rm.frames + 1 ≤ R.frames ∧ 8 + (maxL + 11) + rm.locals ≤ R.locals) (hkR : k + rm.cells ≤ R.cells ∧ n + rm.slots ≤ R.slots) (hk : k + rm.cells = k') (hn' : n + rm.slots = n')
    (hst : (rest.map fun v => v.category).sum ≤ 8) (hd0 : decode cc pc = .ok (ig, 3)) (hn : pc + 3 = npc)
    (kt : ∀ C : String, o = .inr C → xT p l e R s m args below meth c nL E B A k' n' Q ws pc lv C)
    (kk : ∀ v : Option Value, o = .inl v → xW p l e R s m args below meth c nL E B A k' n' Q ws npc lv (v.toList ++ rest)) : xW p l e R s m args below meth c nL E B A k n Q ws pc lv st := by
  intro H locs ls hl hP hD hS T hT X
  obtain ⟨vm₁, mk, hW₁, hnm0, hstep⟩ := pf H locs ls T hl.1 hP hT X
  have X₁ := X.noted hW₁
  have hnm : (T.setVm vm₁).methodNamed? y = some mk := X₁.named hnm0
  have hall : ∀ w ∈ hd :: xG, w.before av.toArray (T.setVm vm₁) = true := by
    intro w hw
    rcases List.mem_cons.mp hw with rfl | hw
    · exact xG_warm hhd X₁.warmed (hB.qt _ hhd)
    · exact xG_warm hw X₁.warmed (hB.qt _ hw)
  obtain ⟨mk', methY, cY, h1, h2, h3, h4, -⟩ := hh _ _ (hall hd List.mem_cons_self)
  cases hnm.symm.trans h1
  have hF : ∀ q, xNew H.size q → A q := fun q h => hB.qa q (Nat.le_trans hS.1 h)
  have hzz : xZ E (xNew H.size) (T.setVm vm₁) H := ((hB.qz.kept (fun a h1 h2 => hS.2.1 a h1 h2)).narrow hF).moved X₁.warmed
  have hpre : xPreP E av w H.size av.toArray (T.setVm vm₁) := by
    have hTe : (T.setVm vm₁).heap = H := hT
    refine ⟨rfl, by rw [hTe], by rw [hTe]; exact hP.sub isC (x_fm hw), va_K.moved X₁.warmed.alike hB.qk, (hD.sub isC hndC hw).weaken (fun _ _ _ _ => trivial), by rw [hTe]; exact hzz⟩
  obtain ⟨oc, t, L, U', X', hL, e1, e2, hq, hsteps⟩ := x_back (hC H.size) x_blindP X₁ (g := F0 m pc ls rest) rfl (hl.1.trans hB.ql.symm) (by rw [hB.qb]; exact hd0) (lv_room hst) hnm h2 h3 h4 hR.1 hR.2 hall (hall _ (List.mem_cons_of_mem _ hini)) hkR.1 hkR.2 hpre
  obtain ⟨hox, hz1, hk1⟩ := hq
  have hTe : ((T.setVm vm₁).calling (F0 m pc ls rest) mk av.toArray).heap = H := hT
  rw [hTe] at hz1 hk1
  have hP2 : va_P E.1 vwCl ws t.heap := hP.kept (fun k q hk => hk1 q.1 (hP k q hk).lt (fun z => absurd (hP k q hk).lt (by have : H.size ≤ q.1 := z; omega)))
  have hS2 : va_S A s.heap t.heap (locs ++ L) := ⟨Nat.le_trans hS.1 hz1, fun q h1 h2 => by rw [hk1 q (Nat.lt_of_lt_of_le h1 hS.1) (fun z => h2 (hF q z))]; exact hS.2.1 q h1 h2, fun q hq => by
    rcases List.mem_append.mp hq with h | h
    · exact hS.2.2 q h
    · exact hF _ (hL q h)⟩
  have X'' := stand_widen X' (Nat.le_of_eq hk) (Nat.le_of_eq hn')
  subst hn
  cases o with
  | inl v =>
    have hox : oc = .returned v := hox
    subst hox
    obtain ⟨t2, a1, b1⟩ := kk v rfl t.heap (locs ++ L) ls hl hP2 hD hS2 U' e1 X''
    exact ⟨t2, hstep _ (fun acts => by rw [doInvoke_state]; exact hsteps.trans a1), b1⟩
  | inr C =>
    obtain ⟨a, cell, hox, ha, hc, hcs, hcl⟩ := hox
    subst hox
    obtain ⟨t2, a1, b1⟩ := kt C rfl t.heap (locs ++ L) ls rest a cell hl hP2 hD hS2 (Nat.le_trans hS.1 ha) hc hcs (by rw [← X'.warmed.alike.findClass, e2]; exact hcl) U' e1 X''
    exact ⟨t2, hstep _ (fun acts => by rw [doInvoke_state]; exact hsteps.trans a1), b1⟩
theorem x_callP (npc : Nat) (hB : xB p s m args meth c E A own cc nL ret mn hs) {y : MethodName} {hd : Cond} {rm : Room} {av st' : List Value} {w : va_W} {v : Option Value} {maxL k' n' : Nat} {ig : Instr}
    (pf : xPf p l e R s m args below meth c nL E k n ws pc y av st rest) (hC : xCp l E y hd rm av w (.inl v)) (hhd : hd ∈ xG) (hh : xHd hd y maxL) (hini : Cond.initialized y.cls ∈ xG)
    (isC : List Nat) (hw : isC.map (fun i => ws[i]?) = w.map some) (hndC : va_nd isC = true)
    (hR : rm.frames + 1 ≤ R.frames ∧ 8 + (maxL + 11) + rm.locals ≤ R.locals) (hkR : k + rm.cells ≤ R.cells ∧ n + rm.slots ≤ R.slots) (hk : k + rm.cells = k') (hn' : n + rm.slots = n')
    (hst : (rest.map fun v => v.category).sum ≤ 8) (hd0 : decode cc pc = .ok (ig, 3)) (hn : pc + 3 = npc) (hst' : v.toList ++ rest = st')
    (kk : xW p l e R s m args below meth c nL E B A k' n' Q ws npc lv st') : xW p l e R s m args below meth c nL E B A k n Q ws pc lv st := by
  subst hst'
  exact x_callP0 npc hB pf hC hhd hh hini isC hw hndC hR hkR hk hn' hst hd0 hn (fun C h => by cases h) (fun v h => by cases h; exact kk)
theorem x_callPT (hB : xB p s m args meth c E A own cc nL ret mn hs) {y : MethodName} {hd : Cond} {rm : Room} {av : List Value} {w : va_W} {C : String} {maxL k' n' : Nat} {ig : Instr}
    (pf : xPf p l e R s m args below meth c nL E k n ws pc y av st rest) (hC : xCp l E y hd rm av w (.inr C)) (hhd : hd ∈ xG) (hh : xHd hd y maxL) (hini : Cond.initialized y.cls ∈ xG)
    (isC : List Nat) (hw : isC.map (fun i => ws[i]?) = w.map some) (hndC : va_nd isC = true)
    (hR : rm.frames + 1 ≤ R.frames ∧ 8 + (maxL + 11) + rm.locals ≤ R.locals) (hkR : k + rm.cells ≤ R.cells ∧ n + rm.slots ≤ R.slots) (hk : k + rm.cells = k') (hn' : n + rm.slots = n')
    (hst : (rest.map fun v => v.category).sum ≤ 8) (hd0 : decode cc pc = .ok (ig, 3))
    (kt : xT p l e R s m args below meth c nL E B A k' n' Q ws pc lv C) : xW p l e R s m args below meth c nL E B A k n Q ws pc lv st :=
  x_callP0 _ hB pf hC hhd hh hini isC hw hndC hR hkR hk hn' hst hd0 rfl (fun C h => by cases h; exact kt) (fun v h => by cases h)
theorem x_mqP {o : xO} {t : State} (h : MQ below (xPostP s.heap.size o) args s k n (xNew s.heap.size) t) : xPQ below args s k n o t := by
  obtain ⟨oc, h1, h2, h3, L, ⟨-, hW, hS⟩, h5⟩ := h
  exact ⟨oc, h1, h2, h3, L, ⟨hW, hS⟩, h5⟩
theorem x_endsP {v v' : Option Value} {H : Heap} {locs : List Loc} (hv : v' = v) (hS : va_S (xNew s.heap.size) s.heap H locs) :
    (∀ t : State, t.heap = H → s.WarmedH t.vm → xPostP s.heap.size (.inl v) args s (.returned v') t) ∧ ∀ q ∈ locs, xNew s.heap.size q.base := by
  subst hv
  exact ⟨fun t ht hW => ⟨rfl, hS.F ht⟩, hS.2.2⟩
theorem x_leaveP (hB : xB p s m args meth c E (xNew s.heap.size) own cc nL ret mn hs) {mc ms : Nat} {C : String} (hk : k ≤ mc) (hn : n ≤ ms) (hout : ∀ h ∈ hs, ¬ (h.1 ≤ pc ∧ pc < h.2.1)) :
    xT p l e R s m args below meth c nL E B (xNew s.heap.size) k n (xPQ below args s mc ms (.inr C)) ws pc lv C := by
  intro H locs ls st a cell hl hP hD hS ha hc hcs hcl T hT X
  have X' := stand_widen X hk hn
  have hout' : ∀ x ∈ c.exceptionTable.toList, covers x pc = false := by
    intro x hx
    have h1 : (x.startPc, x.endPc, x.handlerPc, x.catchType) ∈ hs := by rw [← hB.qe]; exact List.mem_map.mpr ⟨x, hx, rfl⟩
    have h2 := hout _ h1
    simp only [covers, Bool.and_eq_false_iff, decide_eq_false_iff_not]
    by_cases h3 : x.startPc ≤ pc
    · exact Or.inr (fun h4 => h2 ⟨h3, h4⟩)
    · exact Or.inl h3
  obtain ⟨hwalk, hrun, hended, hWm, hsame⟩ := X'.leaveThrown a (g := F0 m pc ls st) rfl rfl rfl hout' (hlocks := hB.qn)
  exact ⟨T.setFrames (.throwing a :: below), hwalk, .threw a, hrun, hended, ⟨⟨a, cell, rfl, ha, by show T.heap[a]? = _; rw [hT]; exact hc, hcs, by rw [hWm.alike.findClass]; exact hcl⟩, hS.F (show T.heap = H from hT)⟩, locs, ⟨hWm, hsame⟩, hS.2.2⟩
theorem x_iretP {v : Int32} (hB : xB p s m args meth c E (xNew s.heap.size) own cc nL (some .int) mn hs) {mc ms : Nat} {r : Option Value}  (hv : (some (.int v)) = r) (hk : k ≤ mc) (hn : n ≤ ms) (hd : decode cc pc = .ok (.ireturn, 1)) : xW p l e R s m args below meth c nL E B (xNew s.heap.size) k n (xPQ below args s mc ms (.inl r)) ws pc lv [.int v] := fun H locs ls hl hP hD hS => by
  have he := x_endsP (args := args) hv hS
  exact W.widen hk hn (x_mono (fun t h => x_mqP h) (W.iret hB.qx hB.qb hB.qr he.1 he.2 hd hB.qn))
theorem x_zretP {v : Int32} (hB : xB p s m args meth c E (xNew s.heap.size) own cc nL (some .boolean) mn hs) {mc ms : Nat} {r : Option Value} (hz : narrow .boolean (.int v) = .int v) (hv : (some (.int v)) = r) (hk : k ≤ mc) (hn : n ≤ ms) (hd : decode cc pc = .ok (.ireturn, 1)) : xW p l e R s m args below meth c nL E B (xNew s.heap.size) k n (xPQ below args s mc ms (.inl r)) ws pc lv [.int v] := fun H locs ls hl hP hD hS => by
  have he := x_endsP (args := args) hv hS
  exact W.widen hk hn (x_mono (fun t h => x_mqP h) (W.zret hB.qx hB.qb hB.qr hz he.1 he.2 hd hB.qn))
theorem x_lretP {v : Int64} (hB : xB p s m args meth c E (xNew s.heap.size) own cc nL (some .long) mn hs) {mc ms : Nat} {r : Option Value}  (hv : (some (.long v)) = r) (hk : k ≤ mc) (hn : n ≤ ms) (hd : decode cc pc = .ok (.lreturn, 1)) : xW p l e R s m args below meth c nL E B (xNew s.heap.size) k n (xPQ below args s mc ms (.inl r)) ws pc lv [.long v] := fun H locs ls hl hP hD hS => by
  have he := x_endsP (args := args) hv hS
  exact W.widen hk hn (x_mono (fun t h => x_mqP h) (W.lret hB.qx hB.qb hB.qr he.1 he.2 hd hB.qn))
theorem x_vretP  (hB : xB p s m args meth c E (xNew s.heap.size) own cc nL none mn hs) {mc ms : Nat} {r : Option Value}  (hv : none = r) (hk : k ≤ mc) (hn : n ≤ ms) (hd : decode cc pc = .ok (.return_, 1)) : xW p l e R s m args below meth c nL E B (xNew s.heap.size) k n (xPQ below args s mc ms (.inl r)) ws pc lv [] := fun H locs ls hl hP hD hS => by
  have he := x_endsP (args := args) hv hS
  exact W.widen hk hn (x_mono (fun t h => x_mqP h) (W.vret hB.qx hB.qb hB.qr he.1 he.2 hd hB.qn))
theorem x_aretP {C : String} {v : Nat} (hB : xB p s m args meth c E (xNew s.heap.size) own cc nL (some (.object C)) mn hs) {mc ms : Nat} {r : Option Value}  (hv : (some (.ref v)) = r) (hk : k ≤ mc) (hn : n ≤ ms) (hd : decode cc pc = .ok (.areturn, 1)) : xW p l e R s m args below meth c nL E B (xNew s.heap.size) k n (xPQ below args s mc ms (.inl r)) ws pc lv [.ref v] := fun H locs ls hl hP hD hS => by
  have he := x_endsP (args := args) hv hS
  exact W.widen hk hn (x_mono (fun t h => x_mqP h) (W.aret hB.qx hB.qb hB.qr (Or.inl ⟨_, rfl⟩) (Or.inr ⟨_, rfl⟩) he.1 he.2 hd hB.qn))
end XP
end
section
/-! throw new X("..") in a pure walk; the catch of an exception -/
def xNoTr (l : Launch) : Prop := ∀ e, l.admits e → e.platform.stackTraces = false
/-- the words of a throw: in the lists, or on Throwable's statics -/
def xTw (a : Cond) : Prop := a ∈ xG ∨ a = .laysStatic Bundle.tN "UNASSIGNED_STACK" Bundle.steD ∨ a = .laysStatic Bundle.tN "SUPPRESSED_SENTINEL" Bundle.listD ∨ a = .isRef (.static Bundle.tN "UNASSIGNED_STACK" Bundle.steD) ∨ a = .isRef (.static Bundle.tN "SUPPRESSED_SENTINEL" Bundle.listD)
theorem xTw.ok {a : Cond} {args : Array Value} {s : State} {E : xE} {A : Nat → Prop} (h : xTw a) (ht : ∀ w ∈ xG, w.before args s = true) (hz : xZ E A s s.heap) : a.before args s = true := by
  rcases h with h | rfl | rfl | rfl | rfl
  · exact ht _ h
  · exact hz.1.lays
  · exact hz.2.1.lays
  · exact hz.1.ref
  · exact hz.2.1.ref
theorem x_same {s U : State} {k n : Nat} (h : s.sameButNew U [] k n) : va_F (xNew s.heap.size) s U := by
  obtain ⟨h1, h2, h3, h4, h5, h6⟩ := h
  refine ⟨by first | exact h2 | exact h3 | omega, fun q hq _ => ?_⟩
  obtain ⟨cell, hc⟩ : ∃ cell, s.heap[q]? = some cell := ⟨s.heap[q], Array.getElem?_eq_getElem hq⟩
  obtain ⟨c', hc', he, hsz, hk⟩ := h6 q cell hc
  rw [hc, hc']
  congr 1
  rw [he]
  have hsl : c'.slots = cell.slots := Array.ext_getElem? (fun i => hk i (by simp))
  rw [hsl]
section XT
variable {p : Program} {l : Launch} {e : Env} {R : Room} {s : State} {m : MethodId} {args : Array Value} {below : List Frame} {meth : Method} {c : Code} {nL : Nat} {E : xE} {B A : Nat → Prop} {k n : Nat} {Q : State → Prop} {ws : va_W} {pc : Nat} {lv : List (Nat × Value)} {st rest : List Value} {own mn : String} {cc : ByteArray} {ret : Option FieldType} {hs : List (Nat × Nat × Nat × Nat)}
theorem x_throw (hT : xNoTr l) (hB : xB p s m args meth c E (xNew s.heap.size) own cc nL ret mn hs) {mc ms ix im ic : Nat} {X tx : String} (names : List String)
    (hcl : Cond.classLink own ix X ∈ xG) (hins : Cond.instantiable X 6 ∈ xG) (hini : Cond.initialized X ∈ xG) (hstr : Cond.stringRef own im tx ∈ xG) (hat : ∀ a ∈ Bundle.ownAtoms own ic X names, xTw a)
    (hfit : Bundle.fit X = true) (hnames : ∀ n ∈ names, Bundle.fit n = true) (hk : k + 1 ≤ mc) (hn : n + 6 ≤ ms) (hkR : k + 1 ≤ R.cells ∧ n + 6 ≤ R.slots) (hRf : names.length + 3 < R.frames) (hRl : 13 * (names.length + 1) + 44 ≤ R.locals)
    (hout : ∀ h ∈ hs, ¬ (h.1 ≤ pc + 3 + 1 + 2 + 3 ∧ pc + 3 + 1 + 2 + 3 < h.2.1))
    (d0 : decode cc pc = .ok (.new ix, 3)) (d3 : decode cc (pc + 3) = .ok (.dup, 1)) (d4 : decode cc (pc + 3 + 1) = .ok (.ldc im, 2)) (d6 : decode cc (pc + 3 + 1 + 2) = .ok (.invokespecial ic, 3)) (d9 : decode cc (pc + 3 + 1 + 2 + 3) = .ok (.athrow, 1)) :
    xW p l e R s m args below meth c nL E B (xNew s.heap.size) k n (xPQ below args s mc ms (.inr X)) ws pc lv [] := by
  intro H locs ls hl hP hD hS
  refine W.newc hB.qx hB.qb hB.qo (hB.qt _ hcl) (hB.qt _ hins) (hB.qt _ hini) (g := F0 m pc ls []) rfl d0 hkR.1 hkR.2 (fun cC kC h1 h2 h3 h4 => ?_)
  refine W.eq (g2 := F0 m (pc + 3) ls [.ref H.size]) rfl ?_
  refine lv_dup hB.qx hB.qb d3 rfl ?_
  obtain ⟨k0, cf, i0, q, -, -, -, -, -, hev⟩ := Cond.stringRef_spec hB.qo (hB.qt _ hstr)
  refine va_ldcS hB.qx hB.qb hB.qo (vk_R.of (hB.qt _ hstr) hev) d4 ?_
  intro T hT' X0
  have X : Stand p l e R s m args below meth c T [] (k + 1) (n + 6) := Stand.forget (locs := []) (extra := locs) X0 (fun y hy => hS.2.2 y hy)
  have hout' : ∀ x ∈ c.exceptionTable.toList, covers x (pc + 3 + 1 + 2 + 3) = false := by
    intro x hx
    have h1 : (x.startPc, x.endPc, x.handlerPc, x.catchType) ∈ hs := by rw [← hB.qe]; exact List.mem_map.mpr ⟨x, hx, rfl⟩
    have h2 := hout _ h1
    simp only [covers, Bool.and_eq_false_iff, decide_eq_false_iff_not]
    by_cases h3 : x.startPc ≤ pc + 3 + 1 + 2 + 3
    · exact Or.inr (fun h4 => h2 ⟨h3, h4⟩)
    · exact Or.inl h3
  obtain ⟨U, hst, hrun, hend, hWm, hsame, ce, hce, how⟩ := X.ctorThrowS hB.qx (hT e X.admits) (own := own) (cls := _) (names := names) (ic := ic) hB.qo hfit hnames (fun a ha => (hat a ha).ok hB.qt hB.qz) (fun x hx => by cases hx) (a := H.size) h1 h2 (by rw [hT']; simp [freshCell]) hS.1 (msg := .ref q) rfl (g := F0 m (pc + 3 + 1 + 2) ls [.ref q, .ref H.size, .ref H.size]) rfl (hl.1.trans hB.ql.symm) rfl rfl (rest := []) rfl (by rw [hB.qb]; exact d6) (by rw [hB.qb]; exact d9) hout' hRf (by show 2 * 0 + (1 + 0) + _ ≤ _; omega) (hlocks := hB.qn)
  have hvs : va_F (xNew s.heap.size) s ({ U with vm := s.vm } : State) := x_same hsame
  exact ⟨U, hst, .threw H.size, hrun, hend, ⟨⟨H.size, ce, rfl, hS.1, hce, by rw [how.vm]; rfl, by rw [hWm.alike.findClass]; exact how.cls⟩, hvs⟩, [], ⟨hWm, hsame.mono hk hn⟩, fun q h => by cases h⟩
end XT
end
