section
-- ===== PART A: goes FIRST, ahead of the names: the tables' words, and 'selects' of the private methods out of them =====
/-- a private method of a class that the tables say can be made, by its rows of tables_1 -/
def lw_okq (q : MethodName × Nat) : Prop := (q.1.cls ≠ "java/lang/invoke/MethodHandle" ∧ q.1.cls ≠ "java/lang/invoke/VarHandle") ∧ Cond.instantiable q.1.cls q.2 ∈ tables_1 ∧ Cond.privateMethod q.1 ∈ tables_1 ∧ Cond.instanceMethod q.1 ∈ tables_1
theorem lw_p0 : lw_okq (⟨"LineCoder$TenReceiver", "isAtMark", "()Z"⟩, 9) := ⟨⟨by decide +kernel, by decide +kernel⟩, List.mem_of_getElem? (i := 44) (by decide +kernel), List.mem_of_getElem? (i := 163) (by decide +kernel), List.mem_of_getElem? (i := 164) (by decide +kernel)⟩
theorem lw_p1 : lw_okq (⟨"LineCoder$TenReceiver", "takeTen", "()I"⟩, 9) := ⟨⟨by decide +kernel, by decide +kernel⟩, List.mem_of_getElem? (i := 44) (by decide +kernel), List.mem_of_getElem? (i := 193) (by decide +kernel), List.mem_of_getElem? (i := 194) (by decide +kernel)⟩
theorem lw_p2 : lw_okq (⟨"LineCoder$TenReceiver", "judge", "(IZ)I"⟩, 9) := ⟨⟨by decide +kernel, by decide +kernel⟩, List.mem_of_getElem? (i := 44) (by decide +kernel), List.mem_of_getElem? (i := 240) (by decide +kernel), List.mem_of_getElem? (i := 241) (by decide +kernel)⟩
theorem lw_p3 : lw_okq (⟨"LineCoder$TenReceiver", "mark", "()V"⟩, 9) := ⟨⟨by decide +kernel, by decide +kernel⟩, List.mem_of_getElem? (i := 44) (by decide +kernel), List.mem_of_getElem? (i := 244) (by decide +kernel), List.mem_of_getElem? (i := 245) (by decide +kernel)⟩
theorem lw_p4 : lw_okq (⟨"LineCoder$TenReceiver", "praise", "()V"⟩, 9) := ⟨⟨by decide +kernel, by decide +kernel⟩, List.mem_of_getElem? (i := 44) (by decide +kernel), List.mem_of_getElem? (i := 248) (by decide +kernel), List.mem_of_getElem? (i := 249) (by decide +kernel)⟩
theorem lw_p5 : lw_okq (⟨"LineCoder$WordReceiver", "takeWord", "()V"⟩, 9) := ⟨⟨by decide +kernel, by decide +kernel⟩, List.mem_of_getElem? (i := 95) (by decide +kernel), List.mem_of_getElem? (i := 268) (by decide +kernel), List.mem_of_getElem? (i := 269) (by decide +kernel)⟩
theorem lw_p6 : lw_okq (⟨"LineCoder$Stirrer", "turning", "()I"⟩, 1) := ⟨⟨by decide +kernel, by decide +kernel⟩, List.mem_of_getElem? (i := 101) (by decide +kernel), List.mem_of_getElem? (i := 277) (by decide +kernel), List.mem_of_getElem? (i := 278) (by decide +kernel)⟩
theorem lw_p7 : lw_okq (⟨"LineCoder$Stirrer", "remember", "(I)V"⟩, 1) := ⟨⟨by decide +kernel, by decide +kernel⟩, List.mem_of_getElem? (i := 101) (by decide +kernel), List.mem_of_getElem? (i := 281) (by decide +kernel), List.mem_of_getElem? (i := 282) (by decide +kernel)⟩
theorem lw_p8 : lw_okq (⟨"LineCoder$WordReceiver", "watch", "(Z)V"⟩, 9) := ⟨⟨by decide +kernel, by decide +kernel⟩, List.mem_of_getElem? (i := 95) (by decide +kernel), List.mem_of_getElem? (i := 285) (by decide +kernel), List.mem_of_getElem? (i := 286) (by decide +kernel)⟩
theorem lw_p9 : lw_okq (⟨"LineCoder$WordReceiver", "gain", "()V"⟩, 9) := ⟨⟨by decide +kernel, by decide +kernel⟩, List.mem_of_getElem? (i := 95) (by decide +kernel), List.mem_of_getElem? (i := 291) (by decide +kernel), List.mem_of_getElem? (i := 292) (by decide +kernel)⟩
theorem lw_p10 : lw_okq (⟨"java/lang/Throwable", "fillInStackTrace", "(I)Ljava/lang/Throwable;"⟩, 6) := ⟨⟨by decide +kernel, by decide +kernel⟩, List.mem_of_getElem? (i := 391) (by decide +kernel), List.mem_of_getElem? (i := 389) (by decide +kernel), List.mem_of_getElem? (i := 390) (by decide +kernel)⟩
theorem lw_p11 : lw_okq (⟨"LineCoder", "lineOf", "(I)LLineCoder$Line;"⟩, 6) := ⟨⟨by decide +kernel, by decide +kernel⟩, List.mem_of_getElem? (i := 19) (by decide +kernel), List.mem_of_getElem? (i := 488) (by decide +kernel), List.mem_of_getElem? (i := 489) (by decide +kernel)⟩
theorem lw_p12 : lw_okq (⟨"LineCoderModel", "make", "(IZ)I"⟩, 23) := ⟨⟨by decide +kernel, by decide +kernel⟩, List.mem_of_getElem? (i := 601) (by decide +kernel), List.mem_of_getElem? (i := 610) (by decide +kernel), List.mem_of_getElem? (i := 611) (by decide +kernel)⟩
theorem lw_p13 : lw_okq (⟨"LineCoderModel", "empty", "()V"⟩, 23) := ⟨⟨by decide +kernel, by decide +kernel⟩, List.mem_of_getElem? (i := 601) (by decide +kernel), List.mem_of_getElem? (i := 620) (by decide +kernel), List.mem_of_getElem? (i := 621) (by decide +kernel)⟩
theorem lw_p14 : lw_okq (⟨"LineCoderModel", "refused", "(I)Z"⟩, 23) := ⟨⟨by decide +kernel, by decide +kernel⟩, List.mem_of_getElem? (i := 601) (by decide +kernel), List.mem_of_getElem? (i := 707) (by decide +kernel), List.mem_of_getElem? (i := 708) (by decide +kernel)⟩
theorem lw_p15 : lw_okq (⟨"LineCoderModel", "append", "(II)V"⟩, 23) := ⟨⟨by decide +kernel, by decide +kernel⟩, List.mem_of_getElem? (i := 601) (by decide +kernel), List.mem_of_getElem? (i := 722) (by decide +kernel), List.mem_of_getElem? (i := 723) (by decide +kernel)⟩
def lw_privs_1 : List (MethodName × Nat) := [(⟨"LineCoder$TenReceiver", "isAtMark", "()Z"⟩, 9), (⟨"LineCoder$TenReceiver", "takeTen", "()I"⟩, 9), (⟨"LineCoder$TenReceiver", "judge", "(IZ)I"⟩, 9), (⟨"LineCoder$TenReceiver", "mark", "()V"⟩, 9), (⟨"LineCoder$TenReceiver", "praise", "()V"⟩, 9), (⟨"LineCoder$WordReceiver", "takeWord", "()V"⟩, 9), (⟨"LineCoder$Stirrer", "turning", "()I"⟩, 1), (⟨"LineCoder$Stirrer", "remember", "(I)V"⟩, 1), (⟨"LineCoder$WordReceiver", "watch", "(Z)V"⟩, 9), (⟨"LineCoder$WordReceiver", "gain", "()V"⟩, 9), (⟨"java/lang/Throwable", "fillInStackTrace", "(I)Ljava/lang/Throwable;"⟩, 6), (⟨"LineCoder", "lineOf", "(I)LLineCoder$Line;"⟩, 6), (⟨"LineCoderModel", "make", "(IZ)I"⟩, 23), (⟨"LineCoderModel", "empty", "()V"⟩, 23), (⟨"LineCoderModel", "refused", "(I)Z"⟩, 23), (⟨"LineCoderModel", "append", "(II)V"⟩, 23)]
theorem lw_r1 : ∀ q ∈ lw_privs_1, lw_okq q := List.forall_mem_cons.mpr ⟨lw_p0, List.forall_mem_cons.mpr ⟨lw_p1, List.forall_mem_cons.mpr ⟨lw_p2, List.forall_mem_cons.mpr ⟨lw_p3, List.forall_mem_cons.mpr ⟨lw_p4, List.forall_mem_cons.mpr ⟨lw_p5, List.forall_mem_cons.mpr ⟨lw_p6, List.forall_mem_cons.mpr ⟨lw_p7, List.forall_mem_cons.mpr ⟨lw_p8, List.forall_mem_cons.mpr ⟨lw_p9, List.forall_mem_cons.mpr ⟨lw_p10, List.forall_mem_cons.mpr ⟨lw_p11, List.forall_mem_cons.mpr ⟨lw_p12, List.forall_mem_cons.mpr ⟨lw_p13, List.forall_mem_cons.mpr ⟨lw_p14, List.forall_mem_cons.mpr ⟨lw_p15, fun _ h => absurd h List.not_mem_nil⟩⟩⟩⟩⟩⟩⟩⟩⟩⟩⟩⟩⟩⟩⟩⟩
theorem lw_p16 : lw_okq (⟨"LineCoderModel", "bitsAt", "(II)I"⟩, 23) := ⟨⟨by decide +kernel, by decide +kernel⟩, List.mem_of_getElem? (i := 601) (by decide +kernel), List.mem_of_getElem? (i := 736) (by decide +kernel), List.mem_of_getElem? (i := 737) (by decide +kernel)⟩
theorem lw_p17 : lw_okq (⟨"LineCoderModel", "taken", "(I)I"⟩, 23) := ⟨⟨by decide +kernel, by decide +kernel⟩, List.mem_of_getElem? (i := 601) (by decide +kernel), List.mem_of_getElem? (i := 740) (by decide +kernel), List.mem_of_getElem? (i := 741) (by decide +kernel)⟩
theorem lw_p18 : lw_okq (⟨"LineCoderModel", "takeWord", "(I)V"⟩, 23) := ⟨⟨by decide +kernel, by decide +kernel⟩, List.mem_of_getElem? (i := 601) (by decide +kernel), List.mem_of_getElem? (i := 755) (by decide +kernel), List.mem_of_getElem? (i := 756) (by decide +kernel)⟩
theorem lw_p19 : lw_okq (⟨"LineCoderModel", "balance", "(I)I"⟩, 23) := ⟨⟨by decide +kernel, by decide +kernel⟩, List.mem_of_getElem? (i := 601) (by decide +kernel), List.mem_of_getElem? (i := 790) (by decide +kernel), List.mem_of_getElem? (i := 791) (by decide +kernel)⟩
theorem lw_p20 : lw_okq (⟨"LineCoderModel", "longest", "(I)I"⟩, 23) := ⟨⟨by decide +kernel, by decide +kernel⟩, List.mem_of_getElem? (i := 601) (by decide +kernel), List.mem_of_getElem? (i := 794) (by decide +kernel), List.mem_of_getElem? (i := 795) (by decide +kernel)⟩
def lw_privs_2 : List (MethodName × Nat) := [(⟨"LineCoderModel", "bitsAt", "(II)I"⟩, 23), (⟨"LineCoderModel", "taken", "(I)I"⟩, 23), (⟨"LineCoderModel", "takeWord", "(I)V"⟩, 23), (⟨"LineCoderModel", "balance", "(I)I"⟩, 23), (⟨"LineCoderModel", "longest", "(I)I"⟩, 23)]
theorem lw_r2 : ∀ q ∈ lw_privs_2, lw_okq q := List.forall_mem_cons.mpr ⟨lw_p16, List.forall_mem_cons.mpr ⟨lw_p17, List.forall_mem_cons.mpr ⟨lw_p18, List.forall_mem_cons.mpr ⟨lw_p19, List.forall_mem_cons.mpr ⟨lw_p20, fun _ h => absurd h List.not_mem_nil⟩⟩⟩⟩⟩
def lw_privs : List (MethodName × Nat) := lw_privs_1 ++ (lw_privs_2)
def lw_tbl : List Cond := k2_sels lw_privs ++ tables_1
theorem lw_privs_ok : ∀ q ∈ lw_privs, lw_okq q := by
  show ∀ q ∈ lw_privs_1 ++ (lw_privs_2), lw_okq q
  exact List.forall_mem_append.mpr ⟨lw_r1, lw_r2⟩
def T_L : u_T := fun k => match k with
  | 0 => ("LineCoder$Line", "bits", "[B", true)
  | 1 => ("LineCoder$Line", "size", "I", false)
  | _ => ("LineCoder$Line", "place", "I", false)
def ty_L : Nat → FieldType := fun k => match k with
  | 0 => .array .byte
  | 1 => .int
  | _ => .int
theorem nm_L : ∀ a, a < 3 → ∀ b, b < 3 → a ≠ b → (T_L a).2.1 ≠ (T_L b).2.1 := by decide +kernel
theorem ty_L_ok : ∀ k, k < 3 → parseFieldDescriptor (T_L k).2.2.1 = some (ty_L k) := by decide +kernel
def T_S : u_T := fun k => match k with
  | _ => ("LineCoder$Stirrer", "past", "J", false)
def ty_S : Nat → FieldType := fun k => match k with
  | _ => .long
theorem nm_S : ∀ a, a < 1 → ∀ b, b < 1 → a ≠ b → (T_S a).2.1 ≠ (T_S b).2.1 := by decide +kernel
theorem ty_S_ok : ∀ k, k < 1 → parseFieldDescriptor (T_S k).2.2.1 = some (ty_S k) := by decide +kernel
def T_T : u_T := fun k => match k with
  | 0 => ("LineCoder$Receiver", "line", "LLineCoder$Line;", true)
  | 1 => ("LineCoder$Receiver", "following", "Z", false)
  | 2 => ("LineCoder$Receiver", "slips", "I", false)
  | 3 => ("LineCoder$Receiver", "bads", "I", false)
  | 4 => ("LineCoder$Receiver", "wrongs", "I", false)
  | 5 => ("LineCoder$TenReceiver", "plus", "Z", false)
  | 6 => ("LineCoder$TenReceiver", "first", "Z", false)
  | 7 => ("LineCoder$TenReceiver", "marks", "I", false)
  | _ => ("LineCoder$TenReceiver", "row", "I", false)
def ty_T : Nat → FieldType := fun k => match k with
  | 0 => .object "LineCoder$Line"
  | 1 => .boolean
  | 2 => .int
  | 3 => .int
  | 4 => .int
  | 5 => .boolean
  | 6 => .boolean
  | 7 => .int
  | _ => .int
theorem nm_T : ∀ a, a < 9 → ∀ b, b < 9 → a ≠ b → (T_T a).2.1 ≠ (T_T b).2.1 := by decide +kernel
theorem ty_T_ok : ∀ k, k < 9 → parseFieldDescriptor (T_T k).2.2.1 = some (ty_T k) := by decide +kernel
def T_W : u_T := fun k => match k with
  | 0 => ("LineCoder$Receiver", "line", "LLineCoder$Line;", true)
  | 1 => ("LineCoder$Receiver", "following", "Z", false)
  | 2 => ("LineCoder$Receiver", "slips", "I", false)
  | 3 => ("LineCoder$Receiver", "bads", "I", false)
  | 4 => ("LineCoder$Receiver", "wrongs", "I", false)
  | 5 => ("LineCoder$WordReceiver", "received", "LLineCoder$Stirrer;", true)
  | 6 => ("LineCoder$WordReceiver", "goodRow", "I", false)
  | 7 => ("LineCoder$WordReceiver", "lately", "I", false)
  | _ => ("LineCoder$WordReceiver", "last", "J", false)
def ty_W : Nat → FieldType := fun k => match k with
  | 0 => .object "LineCoder$Line"
  | 1 => .boolean
  | 2 => .int
  | 3 => .int
  | 4 => .int
  | 5 => .object "LineCoder$Stirrer"
  | 6 => .int
  | 7 => .int
  | _ => .long
theorem nm_W : ∀ a, a < 9 → ∀ b, b < 9 → a ≠ b → (T_W a).2.1 ≠ (T_W b).2.1 := by decide +kernel
theorem ty_W_ok : ∀ k, k < 9 → parseFieldDescriptor (T_W k).2.2.1 = some (ty_W k) := by decide +kernel
def T_X : u_T := fun k => match k with
  | 0 => ("LineCoder", "tenLine", "LLineCoder$Line;", true)
  | 1 => ("LineCoder", "wordLine", "LLineCoder$Line;", true)
  | 2 => ("LineCoder", "tenReceiver", "LLineCoder$TenReceiver;", true)
  | 3 => ("LineCoder", "wordReceiver", "LLineCoder$WordReceiver;", true)
  | 4 => ("LineCoder", "sentWords", "LLineCoder$Stirrer;", true)
  | _ => ("LineCoder", "senderPlus", "Z", false)
def ty_X : Nat → FieldType := fun k => match k with
  | 0 => .object "LineCoder$Line"
  | 1 => .object "LineCoder$Line"
  | 2 => .object "LineCoder$TenReceiver"
  | 3 => .object "LineCoder$WordReceiver"
  | 4 => .object "LineCoder$Stirrer"
  | _ => .boolean
theorem nm_X : ∀ a, a < 6 → ∀ b, b < 6 → a ≠ b → (T_X a).2.1 ≠ (T_X b).2.1 := by decide +kernel
theorem ty_X_ok : ∀ k, k < 6 → parseFieldDescriptor (T_X k).2.2.1 = some (ty_X k) := by decide +kernel
def T_M : u_T := fun k => match k with
  | 0 => ("LineCoderModel", "refusal", "I", false)
  | 1 => ("LineCoderModel", "sixes", "[I", true)
  | 2 => ("LineCoderModel", "fours", "[I", true)
  | 3 => ("LineCoderModel", "codes", "[I", true)
  | 4 => ("LineCoderModel", "symbolOf", "[I", true)
  | 5 => ("LineCoderModel", "bits", "[I", true)
  | 6 => ("LineCoderModel", "size", "[I", true)
  | 7 => ("LineCoderModel", "place", "[I", true)
  | 8 => ("LineCoderModel", "follows", "[Z", true)
  | 9 => ("LineCoderModel", "marks", "[I", true)
  | 10 => ("LineCoderModel", "slips", "[I", true)
  | 11 => ("LineCoderModel", "bads", "[I", true)
  | 12 => ("LineCoderModel", "wrongs", "I", false)
  | 13 => ("LineCoderModel", "senderPlus", "Z", false)
  | 14 => ("LineCoderModel", "receiverPlus", "Z", false)
  | 15 => ("LineCoderModel", "isFirst", "Z", false)
  | 16 => ("LineCoderModel", "good", "I", false)
  | 17 => ("LineCoderModel", "sentBits", "[I", true)
  | 18 => ("LineCoderModel", "gotBits", "[I", true)
  | 19 => ("LineCoderModel", "lately", "I", false)
  | 20 => ("LineCoderModel", "since", "I", false)
  | 21 => ("LineCoderModel", "last", "J", false)
  | _ => ("LineCoderModel", "running", "Z", false)
def ty_M : Nat → FieldType := fun k => match k with
  | 0 => .int
  | 1 => .array .int
  | 2 => .array .int
  | 3 => .array .int
  | 4 => .array .int
  | 5 => .array .int
  | 6 => .array .int
  | 7 => .array .int
  | 8 => .array .boolean
  | 9 => .array .int
  | 10 => .array .int
  | 11 => .array .int
  | 12 => .int
  | 13 => .boolean
  | 14 => .boolean
  | 15 => .boolean
  | 16 => .int
  | 17 => .array .int
  | 18 => .array .int
  | 19 => .int
  | 20 => .int
  | 21 => .long
  | _ => .boolean
theorem nm_M : ∀ a, a < 23 → ∀ b, b < 23 → a ≠ b → (T_M a).2.1 ≠ (T_M b).2.1 := by decide +kernel
theorem ty_M_ok : ∀ k, k < 23 → parseFieldDescriptor (T_M k).2.2.1 = some (ty_M k) := by decide +kernel
abbrev vwCl : List vw_C := [("LineCoder$Line", T_L, 3), ("LineCoder$Stirrer", T_S, 1), ("LineCoder$TenReceiver", T_T, 9), ("LineCoder$WordReceiver", T_W, 9), ("LineCoder", T_X, 6), ("LineCoderModel", T_M, 23)]
def y_X_init : MethodName := ⟨"LineCoder", "<init>", "()V"⟩
def y_L_init : MethodName := ⟨"LineCoder$Line", "<init>", "()V"⟩
def y_T_init : MethodName := ⟨"LineCoder$TenReceiver", "<init>", "(LLineCoder$Line;)V"⟩
def y_R_init : MethodName := ⟨"LineCoder$Receiver", "<init>", "(LLineCoder$Line;)V"⟩
def y_W_init : MethodName := ⟨"LineCoder$WordReceiver", "<init>", "(LLineCoder$Line;)V"⟩
def y_S_init : MethodName := ⟨"LineCoder$Stirrer", "<init>", "()V"⟩
def y_X_receive : MethodName := ⟨"LineCoder", "receive", "()I"⟩
def y_T_step : MethodName := ⟨"LineCoder$TenReceiver", "step", "()I"⟩
def y_L_left : MethodName := ⟨"LineCoder$Line", "left", "()I"⟩
def y_T_isAtMark : MethodName := ⟨"LineCoder$TenReceiver", "isAtMark", "()Z"⟩
def y_L_ahead : MethodName := ⟨"LineCoder$Line", "ahead", "(I)I"⟩
def y_L_at : MethodName := ⟨"LineCoder$Line", "at", "(I)I"⟩
def y_L_has : MethodName := ⟨"LineCoder$Line", "has", "(I)Z"⟩
def y_R_slip : MethodName := ⟨"LineCoder$Receiver", "slip", "()I"⟩
def y_L_advance : MethodName := ⟨"LineCoder$Line", "advance", "(I)V"⟩
def y_JM_min : MethodName := ⟨"java/lang/Math", "min", "(II)I"⟩
def y_T_takeTen : MethodName := ⟨"LineCoder$TenReceiver", "takeTen", "()I"⟩
def y_K_decode : MethodName := ⟨"LineCoder$TenCode", "decode", "(IZ)I"⟩
def y_K_xOf : MethodName := ⟨"LineCoder$TenCode", "xOf", "(IZ)I"⟩
def y_K_sixOf : MethodName := ⟨"LineCoder$TenCode", "sixOf", "(IZ)I"⟩
def y_JI_bitCount : MethodName := ⟨"java/lang/Integer", "bitCount", "(I)I"⟩
def y_K_isSymbol : MethodName := ⟨"LineCoder$TenCode", "isSymbol", "(I)Z"⟩
def y_K_isAmong : MethodName := ⟨"LineCoder$TenCode", "isAmong", "(II)Z"⟩
def y_K_encode : MethodName := ⟨"LineCoder$TenCode", "encode", "(IZ)I"⟩
def y_K_plusBehindSix : MethodName := ⟨"LineCoder$TenCode", "plusBehindSix", "(IZ)Z"⟩
def y_K_fourOf : MethodName := ⟨"LineCoder$TenCode", "fourOf", "(IZ)I"⟩
def y_K_plusBehind : MethodName := ⟨"LineCoder$TenCode", "plusBehind", "(IZ)Z"⟩
def y_K_plusBehindFour : MethodName := ⟨"LineCoder$TenCode", "plusBehindFour", "(IZ)Z"⟩
def y_T_judge : MethodName := ⟨"LineCoder$TenReceiver", "judge", "(IZ)I"⟩
def y_T_mark : MethodName := ⟨"LineCoder$TenReceiver", "mark", "()V"⟩
def y_T_praise : MethodName := ⟨"LineCoder$TenReceiver", "praise", "()V"⟩
def y_JM_max : MethodName := ⟨"java/lang/Math", "max", "(II)I"⟩
def y_X_take : MethodName := ⟨"LineCoder", "take", "()I"⟩
def y_W_step : MethodName := ⟨"LineCoder$WordReceiver", "step", "()I"⟩
def y_W_takeWord : MethodName := ⟨"LineCoder$WordReceiver", "takeWord", "()V"⟩
def y_S_stirBack : MethodName := ⟨"LineCoder$Stirrer", "stirBack", "(I)I"⟩
def y_S_turning : MethodName := ⟨"LineCoder$Stirrer", "turning", "()I"⟩
def y_S_remember : MethodName := ⟨"LineCoder$Stirrer", "remember", "(I)V"⟩
def y_W_watch : MethodName := ⟨"LineCoder$WordReceiver", "watch", "(Z)V"⟩
def y_W_gain : MethodName := ⟨"LineCoder$WordReceiver", "gain", "()V"⟩
def y_X_word : MethodName := ⟨"LineCoder", "word", "()J"⟩
def y_W_lastWord : MethodName := ⟨"LineCoder$WordReceiver", "lastWord", "()J"⟩
def y_X_isPlus : MethodName := ⟨"LineCoder", "isPlus", "(Z)Z"⟩
def y_T_hasPlus : MethodName := ⟨"LineCoder$TenReceiver", "hasPlus", "()Z"⟩
def y_X_clear : MethodName := ⟨"LineCoder", "clear", "()V"⟩
def y_L_empty : MethodName := ⟨"LineCoder$Line", "empty", "()V"⟩
def y_T_restart : MethodName := ⟨"LineCoder$TenReceiver", "restart", "()V"⟩
def y_R_countAnew : MethodName := ⟨"LineCoder$Receiver", "countAnew", "()V"⟩
def y_W_restart : MethodName := ⟨"LineCoder$WordReceiver", "restart", "()V"⟩
def y_S_forget : MethodName := ⟨"LineCoder$Stirrer", "forget", "()V"⟩
def y_Q_code : MethodName := ⟨"LineCoderLaw", "code", "(LLineCoder;IZ[J)I"⟩
def y_X_code : MethodName := ⟨"LineCoder", "code", "(IZ)I"⟩
def y_X_refuseNoSymbol : MethodName := ⟨"LineCoder", "refuseNoSymbol", "(I)V"⟩
def y_Q_symbol : MethodName := ⟨"LineCoderLaw", "symbol", "(LLineCoder;I[J)I"⟩
def y_X_symbol : MethodName := ⟨"LineCoder", "symbol", "(I)I"⟩
def y_Q_send : MethodName := ⟨"LineCoderLaw", "send", "(LLineCoder;I[J)I"⟩
def y_X_send : MethodName := ⟨"LineCoder", "send", "(I)I"⟩
def y_X_refuseNoRoom : MethodName := ⟨"LineCoder", "refuseNoRoom", "(LLineCoder$Line;I)V"⟩
def y_L_hasRoom : MethodName := ⟨"LineCoder$Line", "hasRoom", "(I)Z"⟩
def y_L_append : MethodName := ⟨"LineCoder$Line", "append", "(II)V"⟩
def y_Q_put : MethodName := ⟨"LineCoderLaw", "put", "(LLineCoder;JZ[J)I"⟩
def y_X_put : MethodName := ⟨"LineCoder", "put", "(JZ)I"⟩
def y_S_stir : MethodName := ⟨"LineCoder$Stirrer", "stir", "(I)I"⟩
def y_L_size : MethodName := ⟨"LineCoder$Line", "size", "()I"⟩
def y_Q_raw : MethodName := ⟨"LineCoderLaw", "raw", "(LLineCoder;III[J)I"⟩
def y_X_raw : MethodName := ⟨"LineCoder", "raw", "(III)I"⟩
def y_X_lineOf : MethodName := ⟨"LineCoder", "lineOf", "(I)LLineCoder$Line;"⟩
def y_Q_bend : MethodName := ⟨"LineCoderLaw", "bend", "(LLineCoder;II[J)I"⟩
def y_X_bend : MethodName := ⟨"LineCoder", "bend", "(II)Z"⟩
def y_L_turn : MethodName := ⟨"LineCoder$Line", "turn", "(I)V"⟩
def y_Q_lose : MethodName := ⟨"LineCoderLaw", "lose", "(LLineCoder;III[J)I"⟩
def y_X_lose : MethodName := ⟨"LineCoder", "lose", "(III)I"⟩
def y_L_place : MethodName := ⟨"LineCoder$Line", "place", "()I"⟩
def y_L_remove : MethodName := ⟨"LineCoder$Line", "remove", "(II)I"⟩
def y_Q_bit : MethodName := ⟨"LineCoderLaw", "bit", "(LLineCoder;II[J)I"⟩
def y_X_bit : MethodName := ⟨"LineCoder", "bit", "(II)I"⟩
def y_Q_count : MethodName := ⟨"LineCoderLaw", "count", "(LLineCoder;II[J)I"⟩
def y_X_count : MethodName := ⟨"LineCoder", "count", "(II)I"⟩
def y_R_isFollowing : MethodName := ⟨"LineCoder$Receiver", "isFollowing", "()Z"⟩
def y_T_marks : MethodName := ⟨"LineCoder$TenReceiver", "marks", "()I"⟩
def y_W_marks : MethodName := ⟨"LineCoder$WordReceiver", "marks", "()I"⟩
def y_R_slips : MethodName := ⟨"LineCoder$Receiver", "slips", "()I"⟩
def y_R_bads : MethodName := ⟨"LineCoder$Receiver", "bads", "()I"⟩
def y_R_wrongs : MethodName := ⟨"LineCoder$Receiver", "wrongs", "()I"⟩
def y_L_onesLessZeros : MethodName := ⟨"LineCoder$Line", "onesLessZeros", "()I"⟩
def y_L_longestRun : MethodName := ⟨"LineCoder$Line", "longestRun", "()I"⟩
def y_M_init : MethodName := ⟨"LineCoderModel", "<init>", "()V"⟩
def y_M_isSymbol : MethodName := ⟨"LineCoderModel", "isSymbol", "(I)Z"⟩
def y_M_make : MethodName := ⟨"LineCoderModel", "make", "(IZ)I"⟩
def y_M_ones : MethodName := ⟨"LineCoderModel", "ones", "(I)I"⟩
def y_M_behindSix : MethodName := ⟨"LineCoderModel", "behindSix", "(IZ)Z"⟩
def y_M_empty : MethodName := ⟨"LineCoderModel", "empty", "()V"⟩
def y_M_thrown : MethodName := ⟨"LineCoderModel", "thrown", "()I"⟩
def y_M_clear : MethodName := ⟨"LineCoderModel", "clear", "()V"⟩
def y_M_code : MethodName := ⟨"LineCoderModel", "code", "(IZ)I"⟩
def y_M_refused : MethodName := ⟨"LineCoderModel", "refused", "(I)Z"⟩
def y_M_symbol : MethodName := ⟨"LineCoderModel", "symbol", "(I)I"⟩
def y_M_isIn : MethodName := ⟨"LineCoderModel", "isIn", "(III)Z"⟩
def y_M_send : MethodName := ⟨"LineCoderModel", "send", "(I)I"⟩
def y_M_append : MethodName := ⟨"LineCoderModel", "append", "(II)V"⟩
def y_M_behind : MethodName := ⟨"LineCoderModel", "behind", "(IZ)Z"⟩
def y_M_behindFour : MethodName := ⟨"LineCoderModel", "behindFour", "(IZ)Z"⟩
def y_M_receive : MethodName := ⟨"LineCoderModel", "receive", "()I"⟩
def y_M_bitsAt : MethodName := ⟨"LineCoderModel", "bitsAt", "(II)I"⟩
def y_M_taken : MethodName := ⟨"LineCoderModel", "taken", "(I)I"⟩
def y_M_put : MethodName := ⟨"LineCoderModel", "put", "(JZ)I"⟩
def y_M_remember : MethodName := ⟨"LineCoderModel", "remember", "([II)V"⟩
def y_M_take : MethodName := ⟨"LineCoderModel", "take", "()I"⟩
def y_M_takeWord : MethodName := ⟨"LineCoderModel", "takeWord", "(I)V"⟩
def y_M_onesOf : MethodName := ⟨"LineCoderModel", "onesOf", "(I)I"⟩
def y_M_word : MethodName := ⟨"LineCoderModel", "word", "()J"⟩
def y_M_raw : MethodName := ⟨"LineCoderModel", "raw", "(III)I"⟩
def y_M_isStream : MethodName := ⟨"LineCoderModel", "isStream", "(I)Z"⟩
def y_M_bend : MethodName := ⟨"LineCoderModel", "bend", "(II)Z"⟩
def y_M_lose : MethodName := ⟨"LineCoderModel", "lose", "(III)I"⟩
def y_M_bit : MethodName := ⟨"LineCoderModel", "bit", "(II)I"⟩
def y_M_count : MethodName := ⟨"LineCoderModel", "count", "(II)I"⟩
def y_M_balance : MethodName := ⟨"LineCoderModel", "balance", "(I)I"⟩
def y_M_longest : MethodName := ⟨"LineCoderModel", "longest", "(I)I"⟩
def y_M_isPlus : MethodName := ⟨"LineCoderModel", "isPlus", "(Z)Z"⟩
end
section
/-! My own rows over the kit: a contract that may end by an exception (xMet), one row for every kind of call (x_back). -/
/-- the words that outlast every warming of the tables -/
def xGood : Cond → Bool
  | .methodLinkNest _ _ _ _ => true
  | .fieldLinkNest _ _ _ _ _ _ => true
  | .declares _ => true
  | .castable _ _ => true
  | .stringRef _ _ _ => true
  | w => goodWord w
theorem x_warm {w : Cond} (h : xGood w = true) {args a' : Array Value} {s U : State} (hW : s.WarmedH U.vm) (hb : w.before args s = true) : w.before a' U = true := by
  cases w
  case methodLinkNest a i x h' => exact va_Nw.use rfl (va_Nw.warmM hW (va_Nw.of rfl hb))
  case fieldLinkNest a i b n d h' => exact va_Nw.use rfl (va_Nw.warmF hW (va_Nw.of rfl hb))
  case declares x => exact va_Nw.use rfl (va_Nw.warmD hW (va_Nw.of rfl hb))
  case castable a b =>
    have h1 : (Cond.castable a b).before args (s.setVm U.vm) = true := by rw [Cond.castable_setVm hW.alike]; exact hb
    exact va_tabs rfl (rfl : (s.setVm U.vm).vm = U.vm) h1
  case stringRef a i t =>
    have h1 : (Cond.stringRef a i t).before args (s.setVm U.vm) = true := Cond.stringRef_warmed hW hb
    simp only [Cond.before, Cond.holds, Cond.value, State.names, State.poolOf?, State.resolvedAt?] at h1 ⊢
    exact h1
  all_goals
    refine word_at hW (good_of_word ?_) hb
    exact h
def xG : List Cond := lw_tbl.filter xGood
theorem xG_of {w : Cond} (h : w ∈ lw_tbl) (hg : xGood w = true) : w ∈ xG := List.mem_filter.mpr ⟨h, hg⟩
theorem xG_at {w : Cond} (i : Nat) (h : tables_1[i]? = some w) (hg : xGood w = true) : w ∈ xG := xG_of (List.mem_append_right _ (List.mem_of_getElem? h)) hg
theorem xG_in {w : Cond} (h : w ∈ xG) : w ∈ lw_tbl := (List.mem_filter.mp h).1
theorem xG_warm {w : Cond} (h : w ∈ xG) {args a' : Array Value} {s U : State} (hW : s.WarmedH U.vm) (hb : w.before args s = true) : w.before a' U = true := x_warm (List.mem_filter.mp h).2 hW hb
/-- how a method ends, by a value or by an exception: nothing else moved but the slots L, and at most k new cells of n slots -/
def xEnd (first t : State) (L : List Loc) (k n : Nat) : Prop := first.WarmedH t.vm ∧ first.sameButNew ({ t with vm := first.vm } : State) L k n
def xMet (l : Launch) (y : MethodName) (ws : List Cond) (rm : Room) (Pc : Array Value → State → Prop) (Qc : Array Value → State → Outcome → State → Prop) (free : Addr → Prop) : Prop :=
  MetFree l y (headSpec ws rm) Pc (fun _ _ _ _ _ => True) (fun a st o t => Qc a st o t ∧ ∃ L, xEnd st t L rm.cells rm.slots ∧ ∀ q ∈ L, free q.base)
section XB
variable {p : Program} {l : Launch} {e : Env} {R : Room} {s : State} {m : MethodId} {args : Array Value} {below : List Frame} {meth : Method} {c : Code}
def xGo (g : JFrame) (len : Nat) (o : Outcome) (U : State) : State := match o with
  | .returned v => U.setTop { g with pc := g.pc + len, stack := v.toList ++ g.stack }
  | .threw x => (U.setTop g).pushFrame (.throwing x)
theorem x_back {y : MethodName} {ws : List Cond} {rm : Room} {Pc : Array Value → State → Prop} {Qc : Array Value → State → Outcome → State → Prop} {free : Addr → Prop} (hM : xMet l y ws rm Pc Qc free) (hbl : FrameBlind Pc)
    {U : State} {Ls : List Loc} {c0 s0 : Nat} (X : Stand p l e R s m args below meth c U Ls c0 s0)
    {g : JFrame} {ig : Instr} {len : Nat} {mk : MethodId} {a : Array Value} (hg : g.method = m) (hsize : g.locals.size = c.maxLocals) (hdg : decode c.code g.pc = .ok (ig, len))
    (hW : 2 * g.monitorRoom + (g.stack.map fun v => v.category).sum ≤ 8) (hn : U.methodNamed? y = some mk)
    {methY : Method} {cY : Code} {maxL : Nat} (hmY : U.vm.method? mk = some methY) (hcY : methY.code = some cY) (hlY : cY.maxLocals = maxL)
    (hframes : rm.frames + 1 ≤ R.frames) (hlocals : 8 + (maxL + 11) + rm.locals ≤ R.locals)
    (hws : ∀ w ∈ ws, w.before a U = true) (hini : (Cond.initialized y.cls).before a U = true) (h4 : c0 + rm.cells ≤ R.cells) (h5 : s0 + rm.slots ≤ R.slots) (hp : Pc a U) :
    ∃ (o : Outcome) (t : State) (L : List Loc) (U' : State), Stand p l e R s m args below meth c U' (Ls ++ L) (c0 + rm.cells) (s0 + rm.slots) ∧ (∀ q ∈ L, free q.base) ∧ U'.heap = t.heap ∧ U'.vm = t.vm ∧ Qc a (U.calling g mk a) o t ∧
      Steps p.tables e below (doInvoke e (U.setTop g) [] mk a).1 (xGo g len o U') := by
  obtain ⟨kY, hkY, -⟩ := className_of_methodNamed hn
  have hinitY : kY.init = .initialized := Cond.initialized_spec (findClass_of_methodNamed hn) hkY hini
  have h : At U g.method c below := by rw [hg]; exact X.here
  have happ : (headSpec ws rm).appliesLoose y e.platform (U.calling g mk a) = true :=
    Spec.appliesLoose_calling (g := g) h hdg hn hkY hinitY
      (X.room_calling (g := g) (R' := rm) hsize hmY hcY hframes (by rw [hlY]; omega) h4 h5) (atoms_intro hws)
  obtain ⟨mid, hmid⟩ := h.above
  have hfr : (U.setTop g).frames = (.java g :: mid) ++ below := by rw [State.frames_setTop' g h.top, hmid]; rfl
  obtain ⟨o, s₂, hsteps, -, hend, hq⟩ := Steps.callFree hM p X.admits X.cas X.clock (acts := []) hfr happ (hbl _ _ _ _ hp) trivial
  obtain ⟨hq', L, hfe0, hL⟩ := hq
  have hfe : xEnd (U.calling g mk a) s₂ L rm.cells rm.slots := hfe0
  rw [State.frames_setTop' g h.top] at hend
  obtain ⟨hW₂, e2, q2, q3, q4, q5, q6⟩ := id hfe
  have e3 : s₂ = ({ (U.calling g mk a).setFrames s₂.frames with heap := s₂.heap, slotsUsed := s₂.slotsUsed } : State).setVm s₂.vm := by
    have : s₂ = ({ s₂ with vm := (U.calling g mk a).vm } : State).setVm s₂.vm := rfl
    rw [e2] at this
    exact this
  have hW' : U.WarmedH s₂.vm := hW₂
  obtain ⟨g₀, hg0⟩ := Option.isSome_iff_exists.mp h.top
  obtain ⟨r, hr⟩ := State.topJava?_eq_some.mp hg0
  have hr' : (({ U with heap := s₂.heap, slotsUsed := s₂.slotsUsed } : State).setVm s₂.vm).frames = .java g₀ :: r := hr
  have hs₂ : s₂ = xGo g len o (({ U with heap := s₂.heap, slotsUsed := s₂.slotsUsed } : State).setVm s₂.vm) := by
    cases o with
    | returned v =>
      obtain ⟨c₂, i₂, len₂, hc₂, hd₂, hf₂⟩ := hend
      have hcc : c₂ = c := by
        have h1 : s₂.code? g.method = U.code? g.method := by
          rw [State.code?_eq, State.code?_eq, hW'.alike.method?]
        exact Option.some.inj (hc₂.symm.trans (h1.trans h.code))
      subst hcc
      have hlen : len₂ = len := by rw [hdg] at hd₂; cases hd₂; rfl
      subst hlen
      refine e3.trans ?_
      show _ = (({ U with heap := s₂.heap, slotsUsed := s₂.slotsUsed } : State).setVm s₂.vm).setTop { g with pc := g.pc + len₂, stack := v.toList ++ g.stack }
      rw [hf₂, State.calling_eq h.top, State.setFrames_setFrames, State.setTop_of_frames _ hr', hr]
      rfl
    | threw x =>
      have hf₂ : s₂.frames = .throwing x :: .java g :: r := by
        have h1 : s₂.frames = .throwing x :: .java g :: U.frames.tail := hend
        rw [h1, hr]
        rfl
      refine e3.trans ?_
      show _ = ((({ U with heap := s₂.heap, slotsUsed := s₂.slotsUsed } : State).setVm s₂.vm).setTop g).pushFrame (.throwing x)
      obtain ⟨tt, htt, -⟩ := State.frames_cons hr'
      have hlt := (Array.getElem?_eq_some_iff.mp htt).1
      rw [hf₂, State.calling_eq h.top, State.setFrames_setFrames, State.setTop_of_frames _ hr', State.pushFrame, State.setFrames_setFrames, State.frames_setFrames _ hlt]
      rfl
  have hsame : U.sameButNew ({ U with heap := s₂.heap, slotsUsed := s₂.slotsUsed } : State) L rm.cells rm.slots := by
    refine ⟨?_, q2, q3, q4, q5, q6⟩
    obtain ⟨t, ht, -⟩ := State.frames_cons hr
    show ({ U with heap := s₂.heap, slotsUsed := s₂.slotsUsed } : State) = { U.setFrames U.frames with heap := s₂.heap, slotsUsed := s₂.slotsUsed }
    rw [State.setFrames_self ht]
  refine ⟨o, s₂, L, (({ U with heap := s₂.heap, slotsUsed := s₂.slotsUsed } : State).setVm s₂.vm), ?_, hL, rfl, rfl, hq', ?_⟩
  · subst hg
    exact ⟨X.admits, X.cas, X.clock, X.frames, X.room, X.hears, X.method, X.code, (X.here.setHeapUsed s₂.heap s₂.slotsUsed).setVm hW'.alike, X.tail, State.WarmedH.trans X.warmed hW', X.limits, X.bytes, X.same.trans (hsame.setVm s.vm)⟩
  · rw [← hs₂]
    exact hsteps
end XB
end
section
theorem w_0 : Cond.initialized "LineCoderLaw" ∈ xG := xG_at 0 (by decide +kernel) (by decide +kernel)
theorem w_1 : Cond.initialized "LineCoder" ∈ xG := xG_at 1 (by decide +kernel) (by decide +kernel)
theorem w_2 : Cond.initialized "LineCoder$Line" ∈ xG := xG_at 2 (by decide +kernel) (by decide +kernel)
theorem w_3 : Cond.initialized "LineCoder$Receiver" ∈ xG := xG_at 3 (by decide +kernel) (by decide +kernel)
theorem w_4 : Cond.initialized "LineCoder$TenReceiver" ∈ xG := xG_at 4 (by decide +kernel) (by decide +kernel)
theorem w_5 : Cond.initialized "LineCoder$WordReceiver" ∈ xG := xG_at 5 (by decide +kernel) (by decide +kernel)
theorem w_6 : Cond.initialized "LineCoder$Stirrer" ∈ xG := xG_at 6 (by decide +kernel) (by decide +kernel)
theorem w_7 : Cond.initialized "LineCoderModel" ∈ xG := xG_at 7 (by decide +kernel) (by decide +kernel)
theorem w_8 : Cond.initialized "LineCoder$TenCode" ∈ xG := xG_at 8 (by decide +kernel) (by decide +kernel)
theorem w_9 : Cond.initialized "java/lang/Throwable" ∈ xG := xG_at 9 (by decide +kernel) (by decide +kernel)
theorem w_10 : Cond.initialized "java/lang/Exception" ∈ xG := xG_at 10 (by decide +kernel) (by decide +kernel)
theorem w_11 : Cond.initialized "java/lang/RuntimeException" ∈ xG := xG_at 11 (by decide +kernel) (by decide +kernel)
theorem w_12 : Cond.initialized "java/lang/IllegalArgumentException" ∈ xG := xG_at 12 (by decide +kernel) (by decide +kernel)
theorem w_13 : Cond.initialized "java/lang/Integer" ∈ xG := xG_at 13 (by decide +kernel) (by decide +kernel)
theorem w_14 : Cond.initialized "java/lang/IllegalStateException" ∈ xG := xG_at 14 (by decide +kernel) (by decide +kernel)
theorem w_15 : Cond.initialized "java/lang/Math" ∈ xG := xG_at 15 (by decide +kernel) (by decide +kernel)
theorem w_16 : Cond.initialized "java/lang/IndexOutOfBoundsException" ∈ xG := xG_at 16 (by decide +kernel) (by decide +kernel)
theorem w_17 : Cond.initialized "java/lang/System" ∈ xG := xG_at 17 (by decide +kernel) (by decide +kernel)
theorem w_18 : Cond.classLink "LineCoderLaw" 8 "LineCoder" ∈ xG := xG_at 18 (by decide +kernel) (by decide +kernel)
theorem w_19 : Cond.instantiable "LineCoder" 6 ∈ xG := xG_at 19 (by decide +kernel) (by decide +kernel)
theorem w_20 : Cond.methodLink "LineCoderLaw" 48 y_X_init ∈ xG := xG_at 20 (by decide +kernel) (by decide +kernel)
theorem w_21 : Cond.instanceMethod y_X_init ∈ xG := xG_at 21 (by decide +kernel) (by decide +kernel)
theorem w_22 : Cond.code y_X_init prog_1_method_1_code 1 none ∈ xG := xG_at 22 (by decide +kernel) (by decide +kernel)
theorem w_23 : Cond.methodLink "LineCoder" 1 (⟨"java/lang/Object", "<init>", "()V"⟩ : MethodName) ∈ xG := xG_at 23 (by decide +kernel) (by decide +kernel)
theorem w_24 : Cond.instanceMethod (⟨"java/lang/Object", "<init>", "()V"⟩ : MethodName) ∈ xG := xG_at 24 (by decide +kernel) (by decide +kernel)
theorem w_25 : Cond.code (⟨"java/lang/Object", "<init>", "()V"⟩ : MethodName) object_method_1_code 1 none ∈ xG := xG_at 25 (by decide +kernel) (by decide +kernel)
theorem w_26 : Cond.classLink "LineCoder" 7 "LineCoder$Line" ∈ xG := xG_at 26 (by decide +kernel) (by decide +kernel)
theorem w_27 : Cond.instantiable "LineCoder$Line" 3 ∈ xG := xG_at 27 (by decide +kernel) (by decide +kernel)
theorem w_28 : Cond.methodLink "LineCoder" 9 y_L_init ∈ xG := xG_at 28 (by decide +kernel) (by decide +kernel)
theorem w_29 : Cond.instanceMethod y_L_init ∈ xG := xG_at 29 (by decide +kernel) (by decide +kernel)
theorem w_30 : Cond.code y_L_init prog_2_method_1_code 1 none ∈ xG := xG_at 30 (by decide +kernel) (by decide +kernel)
theorem w_31 : Cond.methodLink "LineCoder$Line" 3 (⟨"java/lang/Object", "<init>", "()V"⟩ : MethodName) ∈ xG := xG_at 31 (by decide +kernel) (by decide +kernel)
theorem w_32 : Cond.fieldLink "LineCoder$Line" 11 "LineCoder$Line" "bits" "[B" ∈ xG := xG_at 32 (by decide +kernel) (by decide +kernel)
theorem w_33 : Cond.fieldLink "LineCoder$Line" 15 "LineCoder$Line" "size" "I" ∈ xG := xG_at 33 (by decide +kernel) (by decide +kernel)
theorem w_34 : Cond.fieldLink "LineCoder$Line" 19 "LineCoder$Line" "place" "I" ∈ xG := xG_at 34 (by decide +kernel) (by decide +kernel)
theorem w_35 : Cond.laysFinal "LineCoder$Line" "LineCoder$Line" "bits" "[B" ∈ xG := xG_at 35 (by decide +kernel) (by decide +kernel)
theorem w_36 : Cond.soleField "LineCoder$Line" "bits" ∈ xG := xG_at 36 (by decide +kernel) (by decide +kernel)
theorem w_37 : Cond.lays "LineCoder$Line" "LineCoder$Line" "size" "I" ∈ xG := xG_at 37 (by decide +kernel) (by decide +kernel)
theorem w_38 : Cond.soleField "LineCoder$Line" "size" ∈ xG := xG_at 38 (by decide +kernel) (by decide +kernel)
theorem w_39 : Cond.lays "LineCoder$Line" "LineCoder$Line" "place" "I" ∈ xG := xG_at 39 (by decide +kernel) (by decide +kernel)
theorem w_40 : Cond.soleField "LineCoder$Line" "place" ∈ xG := xG_at 40 (by decide +kernel) (by decide +kernel)
theorem w_41 : Cond.superclass "LineCoder$Line" "java/lang/Object" ∈ xG := xG_at 41 (by decide +kernel) (by decide +kernel)
theorem w_42 : Cond.arrayClass FieldType.byte ∈ xG := xG_at 42 (by decide +kernel) (by decide +kernel)
theorem w_43 : Cond.classLink "LineCoder" 19 "LineCoder$TenReceiver" ∈ xG := xG_at 43 (by decide +kernel) (by decide +kernel)
theorem w_44 : Cond.instantiable "LineCoder$TenReceiver" 9 ∈ xG := xG_at 44 (by decide +kernel) (by decide +kernel)
theorem w_45 : Cond.methodLink "LineCoder" 21 y_T_init ∈ xG := xG_at 45 (by decide +kernel) (by decide +kernel)
theorem w_46 : Cond.instanceMethod y_T_init ∈ xG := xG_at 46 (by decide +kernel) (by decide +kernel)
theorem w_47 : Cond.code y_T_init prog_6_method_1_code 2 none ∈ xG := xG_at 47 (by decide +kernel) (by decide +kernel)
theorem w_48 : Cond.methodLink "LineCoder$TenReceiver" 3 y_R_init ∈ xG := xG_at 48 (by decide +kernel) (by decide +kernel)
theorem w_49 : Cond.instanceMethod y_R_init ∈ xG := xG_at 49 (by decide +kernel) (by decide +kernel)
theorem w_50 : Cond.code y_R_init prog_3_method_1_code 2 none ∈ xG := xG_at 50 (by decide +kernel) (by decide +kernel)
theorem w_51 : Cond.methodLink "LineCoder$Receiver" 3 (⟨"java/lang/Object", "<init>", "()V"⟩ : MethodName) ∈ xG := xG_at 51 (by decide +kernel) (by decide +kernel)
theorem w_52 : Cond.fieldLink "LineCoder$TenReceiver" 9 "LineCoder$TenReceiver" "plus" "Z" ∈ xG := xG_at 52 (by decide +kernel) (by decide +kernel)
theorem w_53 : Cond.fieldLink "LineCoder$TenReceiver" 15 "LineCoder$TenReceiver" "first" "Z" ∈ xG := xG_at 53 (by decide +kernel) (by decide +kernel)
theorem w_54 : Cond.fieldLink "LineCoder$TenReceiver" 18 "LineCoder$TenReceiver" "marks" "I" ∈ xG := xG_at 54 (by decide +kernel) (by decide +kernel)
theorem w_55 : Cond.fieldLink "LineCoder$TenReceiver" 22 "LineCoder$TenReceiver" "row" "I" ∈ xG := xG_at 55 (by decide +kernel) (by decide +kernel)
theorem w_56 : Cond.fieldLink "LineCoder$Receiver" 9 "LineCoder$Receiver" "line" "LLineCoder$Line;" ∈ xG := xG_at 56 (by decide +kernel) (by decide +kernel)
theorem w_57 : Cond.fieldLink "LineCoder$WordReceiver" 47 "LineCoder$WordReceiver" "line" "LLineCoder$Line;" ∈ xG := xG_at 57 (by decide +kernel) (by decide +kernel)
theorem w_58 : Cond.sameField "LineCoder$WordReceiver" "LineCoder$Receiver" "line" "LLineCoder$Line;" ∈ xG := xG_at 58 (by decide +kernel) (by decide +kernel)
theorem w_59 : Cond.fieldLink "LineCoder$TenReceiver" 32 "LineCoder$TenReceiver" "line" "LLineCoder$Line;" ∈ xG := xG_at 59 (by decide +kernel) (by decide +kernel)
theorem w_60 : Cond.sameField "LineCoder$TenReceiver" "LineCoder$Receiver" "line" "LLineCoder$Line;" ∈ xG := xG_at 60 (by decide +kernel) (by decide +kernel)
theorem w_61 : Cond.fieldLink "LineCoder$Receiver" 15 "LineCoder$Receiver" "following" "Z" ∈ xG := xG_at 61 (by decide +kernel) (by decide +kernel)
theorem w_62 : Cond.fieldLink "LineCoder$WordReceiver" 37 "LineCoder$WordReceiver" "following" "Z" ∈ xG := xG_at 62 (by decide +kernel) (by decide +kernel)
theorem w_63 : Cond.sameField "LineCoder$WordReceiver" "LineCoder$Receiver" "following" "Z" ∈ xG := xG_at 63 (by decide +kernel) (by decide +kernel)
theorem w_64 : Cond.fieldLink "LineCoder$TenReceiver" 29 "LineCoder$TenReceiver" "following" "Z" ∈ xG := xG_at 64 (by decide +kernel) (by decide +kernel)
theorem w_65 : Cond.sameField "LineCoder$TenReceiver" "LineCoder$Receiver" "following" "Z" ∈ xG := xG_at 65 (by decide +kernel) (by decide +kernel)
theorem w_66 : Cond.fieldLink "LineCoder$Receiver" 19 "LineCoder$Receiver" "slips" "I" ∈ xG := xG_at 66 (by decide +kernel) (by decide +kernel)
theorem w_67 : Cond.fieldLink "LineCoder$Receiver" 23 "LineCoder$Receiver" "bads" "I" ∈ xG := xG_at 67 (by decide +kernel) (by decide +kernel)
theorem w_68 : Cond.fieldLink "LineCoder$WordReceiver" 75 "LineCoder$WordReceiver" "bads" "I" ∈ xG := xG_at 68 (by decide +kernel) (by decide +kernel)
theorem w_69 : Cond.sameField "LineCoder$WordReceiver" "LineCoder$Receiver" "bads" "I" ∈ xG := xG_at 69 (by decide +kernel) (by decide +kernel)
theorem w_70 : Cond.fieldLink "LineCoder$TenReceiver" 73 "LineCoder$TenReceiver" "bads" "I" ∈ xG := xG_at 70 (by decide +kernel) (by decide +kernel)
theorem w_71 : Cond.sameField "LineCoder$TenReceiver" "LineCoder$Receiver" "bads" "I" ∈ xG := xG_at 71 (by decide +kernel) (by decide +kernel)
theorem w_72 : Cond.fieldLink "LineCoder$Receiver" 26 "LineCoder$Receiver" "wrongs" "I" ∈ xG := xG_at 72 (by decide +kernel) (by decide +kernel)
theorem w_73 : Cond.fieldLink "LineCoder$TenReceiver" 79 "LineCoder$TenReceiver" "wrongs" "I" ∈ xG := xG_at 73 (by decide +kernel) (by decide +kernel)
theorem w_74 : Cond.sameField "LineCoder$TenReceiver" "LineCoder$Receiver" "wrongs" "I" ∈ xG := xG_at 74 (by decide +kernel) (by decide +kernel)
theorem w_75 : Cond.lays "LineCoder$TenReceiver" "LineCoder$TenReceiver" "plus" "Z" ∈ xG := xG_at 75 (by decide +kernel) (by decide +kernel)
theorem w_76 : Cond.soleField "LineCoder$TenReceiver" "plus" ∈ xG := xG_at 76 (by decide +kernel) (by decide +kernel)
theorem w_77 : Cond.lays "LineCoder$TenReceiver" "LineCoder$TenReceiver" "first" "Z" ∈ xG := xG_at 77 (by decide +kernel) (by decide +kernel)
theorem w_78 : Cond.soleField "LineCoder$TenReceiver" "first" ∈ xG := xG_at 78 (by decide +kernel) (by decide +kernel)
theorem w_79 : Cond.lays "LineCoder$TenReceiver" "LineCoder$TenReceiver" "marks" "I" ∈ xG := xG_at 79 (by decide +kernel) (by decide +kernel)
theorem w_80 : Cond.soleField "LineCoder$TenReceiver" "marks" ∈ xG := xG_at 80 (by decide +kernel) (by decide +kernel)
theorem w_81 : Cond.lays "LineCoder$TenReceiver" "LineCoder$TenReceiver" "row" "I" ∈ xG := xG_at 81 (by decide +kernel) (by decide +kernel)
theorem w_82 : Cond.soleField "LineCoder$TenReceiver" "row" ∈ xG := xG_at 82 (by decide +kernel) (by decide +kernel)
theorem w_83 : Cond.laysFinal "LineCoder$TenReceiver" "LineCoder$Receiver" "line" "LLineCoder$Line;" ∈ xG := xG_at 83 (by decide +kernel) (by decide +kernel)
theorem w_84 : Cond.soleField "LineCoder$Receiver" "line" ∈ xG := xG_at 84 (by decide +kernel) (by decide +kernel)
theorem w_85 : Cond.lays "LineCoder$TenReceiver" "LineCoder$Receiver" "following" "Z" ∈ xG := xG_at 85 (by decide +kernel) (by decide +kernel)
theorem w_86 : Cond.soleField "LineCoder$Receiver" "following" ∈ xG := xG_at 86 (by decide +kernel) (by decide +kernel)
theorem w_87 : Cond.lays "LineCoder$TenReceiver" "LineCoder$Receiver" "slips" "I" ∈ xG := xG_at 87 (by decide +kernel) (by decide +kernel)
theorem w_88 : Cond.soleField "LineCoder$Receiver" "slips" ∈ xG := xG_at 88 (by decide +kernel) (by decide +kernel)
theorem w_89 : Cond.lays "LineCoder$TenReceiver" "LineCoder$Receiver" "bads" "I" ∈ xG := xG_at 89 (by decide +kernel) (by decide +kernel)
theorem w_90 : Cond.soleField "LineCoder$Receiver" "bads" ∈ xG := xG_at 90 (by decide +kernel) (by decide +kernel)
theorem w_91 : Cond.lays "LineCoder$TenReceiver" "LineCoder$Receiver" "wrongs" "I" ∈ xG := xG_at 91 (by decide +kernel) (by decide +kernel)
theorem w_92 : Cond.soleField "LineCoder$Receiver" "wrongs" ∈ xG := xG_at 92 (by decide +kernel) (by decide +kernel)
theorem w_93 : Cond.superclass "LineCoder$TenReceiver" "LineCoder$Receiver" ∈ xG := xG_at 93 (by decide +kernel) (by decide +kernel)
theorem w_94 : Cond.classLink "LineCoder" 28 "LineCoder$WordReceiver" ∈ xG := xG_at 94 (by decide +kernel) (by decide +kernel)
theorem w_95 : Cond.instantiable "LineCoder$WordReceiver" 9 ∈ xG := xG_at 95 (by decide +kernel) (by decide +kernel)
theorem w_96 : Cond.methodLink "LineCoder" 30 y_W_init ∈ xG := xG_at 96 (by decide +kernel) (by decide +kernel)
theorem w_97 : Cond.instanceMethod y_W_init ∈ xG := xG_at 97 (by decide +kernel) (by decide +kernel)
theorem w_98 : Cond.code y_W_init prog_8_method_1_code 2 none ∈ xG := xG_at 98 (by decide +kernel) (by decide +kernel)
theorem w_99 : Cond.methodLink "LineCoder$WordReceiver" 3 y_R_init ∈ xG := xG_at 99 (by decide +kernel) (by decide +kernel)
theorem w_100 : Cond.classLink "LineCoder$WordReceiver" 9 "LineCoder$Stirrer" ∈ xG := xG_at 100 (by decide +kernel) (by decide +kernel)
theorem w_101 : Cond.instantiable "LineCoder$Stirrer" 1 ∈ xG := xG_at 101 (by decide +kernel) (by decide +kernel)
theorem w_102 : Cond.methodLink "LineCoder$WordReceiver" 11 y_S_init ∈ xG := xG_at 102 (by decide +kernel) (by decide +kernel)
theorem w_103 : Cond.instanceMethod y_S_init ∈ xG := xG_at 103 (by decide +kernel) (by decide +kernel)
theorem w_104 : Cond.code y_S_init prog_4_method_1_code 1 none ∈ xG := xG_at 104 (by decide +kernel) (by decide +kernel)
theorem w_105 : Cond.methodLink "LineCoder$Stirrer" 1 (⟨"java/lang/Object", "<init>", "()V"⟩ : MethodName) ∈ xG := xG_at 105 (by decide +kernel) (by decide +kernel)
theorem w_106 : Cond.constantLong "LineCoder$Stirrer" 9 (-1 : Int64) ∈ xG := xG_at 106 (by decide +kernel) (by decide +kernel)
theorem w_107 : Cond.fieldLink "LineCoder$Stirrer" 11 "LineCoder$Stirrer" "past" "J" ∈ xG := xG_at 107 (by decide +kernel) (by decide +kernel)
theorem w_108 : Cond.lays "LineCoder$Stirrer" "LineCoder$Stirrer" "past" "J" ∈ xG := xG_at 108 (by decide +kernel) (by decide +kernel)
theorem w_109 : Cond.soleField "LineCoder$Stirrer" "past" ∈ xG := xG_at 109 (by decide +kernel) (by decide +kernel)
theorem w_110 : Cond.superclass "LineCoder$Stirrer" "java/lang/Object" ∈ xG := xG_at 110 (by decide +kernel) (by decide +kernel)
theorem w_111 : Cond.fieldLink "LineCoder$WordReceiver" 14 "LineCoder$WordReceiver" "received" "LLineCoder$Stirrer;" ∈ xG := xG_at 111 (by decide +kernel) (by decide +kernel)
theorem w_112 : Cond.fieldLink "LineCoder$WordReceiver" 20 "LineCoder$WordReceiver" "goodRow" "I" ∈ xG := xG_at 112 (by decide +kernel) (by decide +kernel)
theorem w_113 : Cond.fieldLink "LineCoder$WordReceiver" 24 "LineCoder$WordReceiver" "lately" "I" ∈ xG := xG_at 113 (by decide +kernel) (by decide +kernel)
theorem w_114 : Cond.fieldLink "LineCoder$WordReceiver" 27 "LineCoder$WordReceiver" "last" "J" ∈ xG := xG_at 114 (by decide +kernel) (by decide +kernel)
theorem w_115 : Cond.laysFinal "LineCoder$WordReceiver" "LineCoder$WordReceiver" "received" "LLineCoder$Stirrer;" ∈ xG := xG_at 115 (by decide +kernel) (by decide +kernel)
theorem w_116 : Cond.soleField "LineCoder$WordReceiver" "received" ∈ xG := xG_at 116 (by decide +kernel) (by decide +kernel)
theorem w_117 : Cond.lays "LineCoder$WordReceiver" "LineCoder$WordReceiver" "goodRow" "I" ∈ xG := xG_at 117 (by decide +kernel) (by decide +kernel)
theorem w_118 : Cond.soleField "LineCoder$WordReceiver" "goodRow" ∈ xG := xG_at 118 (by decide +kernel) (by decide +kernel)
theorem w_119 : Cond.lays "LineCoder$WordReceiver" "LineCoder$WordReceiver" "lately" "I" ∈ xG := xG_at 119 (by decide +kernel) (by decide +kernel)
theorem w_120 : Cond.soleField "LineCoder$WordReceiver" "lately" ∈ xG := xG_at 120 (by decide +kernel) (by decide +kernel)
theorem w_121 : Cond.lays "LineCoder$WordReceiver" "LineCoder$WordReceiver" "last" "J" ∈ xG := xG_at 121 (by decide +kernel) (by decide +kernel)
theorem w_122 : Cond.soleField "LineCoder$WordReceiver" "last" ∈ xG := xG_at 122 (by decide +kernel) (by decide +kernel)
theorem w_123 : Cond.laysFinal "LineCoder$WordReceiver" "LineCoder$Receiver" "line" "LLineCoder$Line;" ∈ xG := xG_at 123 (by decide +kernel) (by decide +kernel)
theorem w_124 : Cond.lays "LineCoder$WordReceiver" "LineCoder$Receiver" "following" "Z" ∈ xG := xG_at 124 (by decide +kernel) (by decide +kernel)
theorem w_125 : Cond.lays "LineCoder$WordReceiver" "LineCoder$Receiver" "slips" "I" ∈ xG := xG_at 125 (by decide +kernel) (by decide +kernel)
theorem w_126 : Cond.lays "LineCoder$WordReceiver" "LineCoder$Receiver" "bads" "I" ∈ xG := xG_at 126 (by decide +kernel) (by decide +kernel)
theorem w_127 : Cond.lays "LineCoder$WordReceiver" "LineCoder$Receiver" "wrongs" "I" ∈ xG := xG_at 127 (by decide +kernel) (by decide +kernel)
theorem w_128 : Cond.superclass "LineCoder$WordReceiver" "LineCoder$Receiver" ∈ xG := xG_at 128 (by decide +kernel) (by decide +kernel)
theorem w_129 : Cond.classLink "LineCoder" 35 "LineCoder$Stirrer" ∈ xG := xG_at 129 (by decide +kernel) (by decide +kernel)
theorem w_130 : Cond.methodLink "LineCoder" 37 y_S_init ∈ xG := xG_at 130 (by decide +kernel) (by decide +kernel)
theorem w_131 : Cond.fieldLink "LineCoder" 10 "LineCoder" "tenLine" "LLineCoder$Line;" ∈ xG := xG_at 131 (by decide +kernel) (by decide +kernel)
theorem w_132 : Cond.fieldLink "LineCoder" 16 "LineCoder" "wordLine" "LLineCoder$Line;" ∈ xG := xG_at 132 (by decide +kernel) (by decide +kernel)
theorem w_133 : Cond.fieldLink "LineCoder" 24 "LineCoder" "tenReceiver" "LLineCoder$TenReceiver;" ∈ xG := xG_at 133 (by decide +kernel) (by decide +kernel)
theorem w_134 : Cond.fieldLink "LineCoder" 31 "LineCoder" "wordReceiver" "LLineCoder$WordReceiver;" ∈ xG := xG_at 134 (by decide +kernel) (by decide +kernel)
theorem w_135 : Cond.fieldLink "LineCoder" 38 "LineCoder" "sentWords" "LLineCoder$Stirrer;" ∈ xG := xG_at 135 (by decide +kernel) (by decide +kernel)
theorem w_136 : Cond.fieldLink "LineCoder" 42 "LineCoder" "senderPlus" "Z" ∈ xG := xG_at 136 (by decide +kernel) (by decide +kernel)
theorem w_137 : Cond.laysFinal "LineCoder" "LineCoder" "tenLine" "LLineCoder$Line;" ∈ xG := xG_at 137 (by decide +kernel) (by decide +kernel)
theorem w_138 : Cond.soleField "LineCoder" "tenLine" ∈ xG := xG_at 138 (by decide +kernel) (by decide +kernel)
theorem w_139 : Cond.laysFinal "LineCoder" "LineCoder" "wordLine" "LLineCoder$Line;" ∈ xG := xG_at 139 (by decide +kernel) (by decide +kernel)
theorem w_140 : Cond.soleField "LineCoder" "wordLine" ∈ xG := xG_at 140 (by decide +kernel) (by decide +kernel)
theorem w_141 : Cond.laysFinal "LineCoder" "LineCoder" "tenReceiver" "LLineCoder$TenReceiver;" ∈ xG := xG_at 141 (by decide +kernel) (by decide +kernel)
theorem w_142 : Cond.soleField "LineCoder" "tenReceiver" ∈ xG := xG_at 142 (by decide +kernel) (by decide +kernel)
theorem w_143 : Cond.laysFinal "LineCoder" "LineCoder" "wordReceiver" "LLineCoder$WordReceiver;" ∈ xG := xG_at 143 (by decide +kernel) (by decide +kernel)
theorem w_144 : Cond.soleField "LineCoder" "wordReceiver" ∈ xG := xG_at 144 (by decide +kernel) (by decide +kernel)
theorem w_145 : Cond.laysFinal "LineCoder" "LineCoder" "sentWords" "LLineCoder$Stirrer;" ∈ xG := xG_at 145 (by decide +kernel) (by decide +kernel)
theorem w_146 : Cond.soleField "LineCoder" "sentWords" ∈ xG := xG_at 146 (by decide +kernel) (by decide +kernel)
theorem w_147 : Cond.lays "LineCoder" "LineCoder" "senderPlus" "Z" ∈ xG := xG_at 147 (by decide +kernel) (by decide +kernel)
theorem w_148 : Cond.soleField "LineCoder" "senderPlus" ∈ xG := xG_at 148 (by decide +kernel) (by decide +kernel)
theorem w_149 : Cond.superclass "LineCoder" "java/lang/Object" ∈ xG := xG_at 149 (by decide +kernel) (by decide +kernel)
theorem w_150 : Cond.methodLink "LineCoderLaw" 69 y_X_receive ∈ xG := xG_at 150 (by decide +kernel) (by decide +kernel)
theorem w_151 : Cond.instanceMethod y_X_receive ∈ xG := xG_at 151 (by decide +kernel) (by decide +kernel)
theorem w_152 : Cond.selects "LineCoder" y_X_receive y_X_receive ∈ xG := xG_at 152 (by decide +kernel) (by decide +kernel)
theorem w_153 : Cond.code y_X_receive prog_1_method_5_code 1 (Option.some FieldType.int) ∈ xG := xG_at 153 (by decide +kernel) (by decide +kernel)
theorem w_154 : Cond.methodLink "LineCoder" 78 y_T_step ∈ xG := xG_at 154 (by decide +kernel) (by decide +kernel)
theorem w_155 : Cond.instanceMethod y_T_step ∈ xG := xG_at 155 (by decide +kernel) (by decide +kernel)
theorem w_156 : Cond.selects "LineCoder$TenReceiver" y_T_step y_T_step ∈ xG := xG_at 156 (by decide +kernel) (by decide +kernel)
theorem w_157 : Cond.code y_T_step prog_6_method_5_code 1 (Option.some FieldType.int) ∈ xG := xG_at 157 (by decide +kernel) (by decide +kernel)
theorem w_158 : Cond.methodLink "LineCoder$TenReceiver" 36 y_L_left ∈ xG := xG_at 158 (by decide +kernel) (by decide +kernel)
theorem w_159 : Cond.instanceMethod y_L_left ∈ xG := xG_at 159 (by decide +kernel) (by decide +kernel)
theorem w_160 : Cond.selects "LineCoder$Line" y_L_left y_L_left ∈ xG := xG_at 160 (by decide +kernel) (by decide +kernel)
theorem w_161 : Cond.code y_L_left prog_2_method_5_code 1 (Option.some FieldType.int) ∈ xG := xG_at 161 (by decide +kernel) (by decide +kernel)
theorem w_162 : Cond.methodLink "LineCoder$TenReceiver" 42 y_T_isAtMark ∈ xG := xG_at 162 (by decide +kernel) (by decide +kernel)
theorem w_164 : Cond.instanceMethod y_T_isAtMark ∈ xG := xG_at 164 (by decide +kernel) (by decide +kernel)
theorem w_165 : Cond.code y_T_isAtMark prog_6_method_6_code 2 (Option.some FieldType.boolean) ∈ xG := xG_at 165 (by decide +kernel) (by decide +kernel)
theorem w_166 : Cond.methodLink "LineCoder$TenReceiver" 54 y_L_ahead ∈ xG := xG_at 166 (by decide +kernel) (by decide +kernel)
theorem w_167 : Cond.instanceMethod y_L_ahead ∈ xG := xG_at 167 (by decide +kernel) (by decide +kernel)
theorem w_168 : Cond.selects "LineCoder$Line" y_L_ahead y_L_ahead ∈ xG := xG_at 168 (by decide +kernel) (by decide +kernel)
theorem w_169 : Cond.code y_L_ahead prog_2_method_12_code 4 (Option.some FieldType.int) ∈ xG := xG_at 169 (by decide +kernel) (by decide +kernel)
theorem w_170 : Cond.methodLink "LineCoder$Line" 38 y_L_at ∈ xG := xG_at 170 (by decide +kernel) (by decide +kernel)
theorem w_171 : Cond.instanceMethod y_L_at ∈ xG := xG_at 171 (by decide +kernel) (by decide +kernel)
theorem w_172 : Cond.selects "LineCoder$Line" y_L_at y_L_at ∈ xG := xG_at 172 (by decide +kernel) (by decide +kernel)
theorem w_173 : Cond.code y_L_at prog_2_method_8_code 2 (Option.some FieldType.int) ∈ xG := xG_at 173 (by decide +kernel) (by decide +kernel)
theorem w_174 : Cond.methodLink "LineCoder$Line" 22 y_L_has ∈ xG := xG_at 174 (by decide +kernel) (by decide +kernel)
theorem w_175 : Cond.instanceMethod y_L_has ∈ xG := xG_at 175 (by decide +kernel) (by decide +kernel)
theorem w_176 : Cond.selects "LineCoder$Line" y_L_has y_L_has ∈ xG := xG_at 176 (by decide +kernel) (by decide +kernel)
theorem w_177 : Cond.code y_L_has prog_2_method_6_code 2 (Option.some FieldType.boolean) ∈ xG := xG_at 177 (by decide +kernel) (by decide +kernel)
theorem w_178 : Cond.methodLink "LineCoder$TenReceiver" 46 (⟨"LineCoder$TenReceiver", "slip", "()I"⟩ : MethodName) ∈ xG := xG_at 178 (by decide +kernel) (by decide +kernel)
theorem w_179 : Cond.sameMethod "LineCoder$TenReceiver" "LineCoder$Receiver" "slip" "()I" ∈ xG := xG_at 179 (by decide +kernel) (by decide +kernel)
theorem w_180 : Cond.declares y_R_slip ∈ xG := xG_at 180 (by decide +kernel) (by decide +kernel)
theorem w_181 : Cond.selects "LineCoder$TenReceiver" (⟨"LineCoder$TenReceiver", "slip", "()I"⟩ : MethodName) y_R_slip ∈ xG := xG_at 181 (by decide +kernel) (by decide +kernel)
theorem w_182 : Cond.instanceMethod y_R_slip ∈ xG := xG_at 182 (by decide +kernel) (by decide +kernel)
theorem w_183 : Cond.code y_R_slip prog_3_method_8_code 1 (Option.some FieldType.int) ∈ xG := xG_at 183 (by decide +kernel) (by decide +kernel)
theorem w_184 : Cond.methodLink "LineCoder$Receiver" 29 y_L_advance ∈ xG := xG_at 184 (by decide +kernel) (by decide +kernel)
theorem w_185 : Cond.instanceMethod y_L_advance ∈ xG := xG_at 185 (by decide +kernel) (by decide +kernel)
theorem w_186 : Cond.selects "LineCoder$Line" y_L_advance y_L_advance ∈ xG := xG_at 186 (by decide +kernel) (by decide +kernel)
theorem w_187 : Cond.code y_L_advance prog_2_method_13_code 2 none ∈ xG := xG_at 187 (by decide +kernel) (by decide +kernel)
theorem w_188 : Cond.methodLink "LineCoder$Line" 42 y_L_left ∈ xG := xG_at 188 (by decide +kernel) (by decide +kernel)
theorem w_189 : Cond.methodLink "LineCoder$Line" 26 y_JM_min ∈ xG := xG_at 189 (by decide +kernel) (by decide +kernel)
theorem w_190 : Cond.static y_JM_min ∈ xG := xG_at 190 (by decide +kernel) (by decide +kernel)
theorem w_191 : Cond.code y_JM_min prog_16_method_69_code 2 (Option.some FieldType.int) ∈ xG := xG_at 191 (by decide +kernel) (by decide +kernel)
theorem w_192 : Cond.methodLink "LineCoder$TenReceiver" 51 y_T_takeTen ∈ xG := xG_at 192 (by decide +kernel) (by decide +kernel)
theorem w_194 : Cond.instanceMethod y_T_takeTen ∈ xG := xG_at 194 (by decide +kernel) (by decide +kernel)
theorem w_195 : Cond.code y_T_takeTen prog_6_method_7_code 6 (Option.some FieldType.int) ∈ xG := xG_at 195 (by decide +kernel) (by decide +kernel)
theorem w_196 : Cond.methodLink "LineCoder$TenReceiver" 58 y_L_advance ∈ xG := xG_at 196 (by decide +kernel) (by decide +kernel)
theorem w_197 : Cond.methodLink "LineCoder$TenReceiver" 62 y_K_decode ∈ xG := xG_at 197 (by decide +kernel) (by decide +kernel)
theorem w_198 : Cond.static y_K_decode ∈ xG := xG_at 198 (by decide +kernel) (by decide +kernel)
theorem w_199 : Cond.code y_K_decode prog_5_method_4_code 4 (Option.some FieldType.int) ∈ xG := xG_at 199 (by decide +kernel) (by decide +kernel)
theorem w_200 : Cond.methodLink "LineCoder$TenCode" 27 y_K_xOf ∈ xG := xG_at 200 (by decide +kernel) (by decide +kernel)
theorem w_201 : Cond.static y_K_xOf ∈ xG := xG_at 201 (by decide +kernel) (by decide +kernel)
theorem w_202 : Cond.code y_K_xOf prog_5_method_7_code 3 (Option.some FieldType.int) ∈ xG := xG_at 202 (by decide +kernel) (by decide +kernel)
theorem w_203 : Cond.methodLink "LineCoder$TenCode" 16 y_K_sixOf ∈ xG := xG_at 203 (by decide +kernel) (by decide +kernel)
theorem w_204 : Cond.static y_K_sixOf ∈ xG := xG_at 204 (by decide +kernel) (by decide +kernel)
theorem w_205 : Cond.code y_K_sixOf prog_5_method_8_code 5 (Option.some FieldType.int) ∈ xG := xG_at 205 (by decide +kernel) (by decide +kernel)
theorem w_206 : Cond.fieldLink "LineCoder$TenCode" 40 "LineCoder$TenCode" "SIX" "[I" ∈ xG := xG_at 206 (by decide +kernel) (by decide +kernel)
theorem w_208 : Cond.methodLink "LineCoder$TenCode" 44 y_JI_bitCount ∈ xG := xG_at 208 (by decide +kernel) (by decide +kernel)
theorem w_209 : Cond.static y_JI_bitCount ∈ xG := xG_at 209 (by decide +kernel) (by decide +kernel)
theorem w_210 : Cond.code y_JI_bitCount prog_15_method_49_code 1 (Option.some FieldType.int) ∈ xG := xG_at 210 (by decide +kernel) (by decide +kernel)
theorem w_211 : Cond.constant "java/lang/Integer" 265 (1431655765 : Int32) ∈ xG := xG_at 211 (by decide +kernel) (by decide +kernel)
theorem w_212 : Cond.constant "java/lang/Integer" 266 (858993459 : Int32) ∈ xG := xG_at 212 (by decide +kernel) (by decide +kernel)
theorem w_213 : Cond.constant "java/lang/Integer" 267 (252645135 : Int32) ∈ xG := xG_at 213 (by decide +kernel) (by decide +kernel)
theorem w_214 : Cond.methodLink "LineCoder$TenCode" 30 y_K_isSymbol ∈ xG := xG_at 214 (by decide +kernel) (by decide +kernel)
theorem w_215 : Cond.static y_K_isSymbol ∈ xG := xG_at 215 (by decide +kernel) (by decide +kernel)
theorem w_216 : Cond.code y_K_isSymbol prog_5_method_2_code 3 (Option.some FieldType.boolean) ∈ xG := xG_at 216 (by decide +kernel) (by decide +kernel)
theorem w_217 : Cond.constant "LineCoder$TenCode" 11 (1753219072 : Int32) ∈ xG := xG_at 217 (by decide +kernel) (by decide +kernel)
theorem w_218 : Cond.methodLink "LineCoder$TenCode" 12 y_K_isAmong ∈ xG := xG_at 218 (by decide +kernel) (by decide +kernel)
theorem w_219 : Cond.static y_K_isAmong ∈ xG := xG_at 219 (by decide +kernel) (by decide +kernel)
theorem w_220 : Cond.code y_K_isAmong prog_5_method_6_code 2 (Option.some FieldType.boolean) ∈ xG := xG_at 220 (by decide +kernel) (by decide +kernel)
theorem w_221 : Cond.methodLink "LineCoder$TenCode" 34 y_K_encode ∈ xG := xG_at 221 (by decide +kernel) (by decide +kernel)
theorem w_222 : Cond.static y_K_encode ∈ xG := xG_at 222 (by decide +kernel) (by decide +kernel)
theorem w_223 : Cond.code y_K_encode prog_5_method_3_code 4 (Option.some FieldType.int) ∈ xG := xG_at 223 (by decide +kernel) (by decide +kernel)
theorem w_224 : Cond.methodLink "LineCoder$TenCode" 20 y_K_plusBehindSix ∈ xG := xG_at 224 (by decide +kernel) (by decide +kernel)
theorem w_225 : Cond.static y_K_plusBehindSix ∈ xG := xG_at 225 (by decide +kernel) (by decide +kernel)
theorem w_226 : Cond.code y_K_plusBehindSix prog_5_method_10_code 3 (Option.some FieldType.boolean) ∈ xG := xG_at 226 (by decide +kernel) (by decide +kernel)
theorem w_227 : Cond.methodLink "LineCoder$TenCode" 24 y_K_fourOf ∈ xG := xG_at 227 (by decide +kernel) (by decide +kernel)
theorem w_228 : Cond.static y_K_fourOf ∈ xG := xG_at 228 (by decide +kernel) (by decide +kernel)
theorem w_229 : Cond.code y_K_fourOf prog_5_method_9_code 8 (Option.some FieldType.int) ∈ xG := xG_at 229 (by decide +kernel) (by decide +kernel)
theorem w_230 : Cond.constant "LineCoder$TenCode" 50 (1441792 : Int32) ∈ xG := xG_at 230 (by decide +kernel) (by decide +kernel)
theorem w_231 : Cond.fieldLink "LineCoder$TenCode" 51 "LineCoder$TenCode" "FOUR" "[I" ∈ xG := xG_at 231 (by decide +kernel) (by decide +kernel)
theorem w_233 : Cond.methodLink "LineCoder$TenReceiver" 66 y_K_plusBehind ∈ xG := xG_at 233 (by decide +kernel) (by decide +kernel)
theorem w_234 : Cond.static y_K_plusBehind ∈ xG := xG_at 234 (by decide +kernel) (by decide +kernel)
theorem w_235 : Cond.code y_K_plusBehind prog_5_method_5_code 3 (Option.some FieldType.boolean) ∈ xG := xG_at 235 (by decide +kernel) (by decide +kernel)
theorem w_236 : Cond.methodLink "LineCoder$TenCode" 37 y_K_plusBehindFour ∈ xG := xG_at 236 (by decide +kernel) (by decide +kernel)
theorem w_237 : Cond.static y_K_plusBehindFour ∈ xG := xG_at 237 (by decide +kernel) (by decide +kernel)
theorem w_238 : Cond.code y_K_plusBehindFour prog_5_method_11_code 3 (Option.some FieldType.boolean) ∈ xG := xG_at 238 (by decide +kernel) (by decide +kernel)
theorem w_239 : Cond.methodLink "LineCoder$TenReceiver" 70 y_T_judge ∈ xG := xG_at 239 (by decide +kernel) (by decide +kernel)
theorem w_241 : Cond.instanceMethod y_T_judge ∈ xG := xG_at 241 (by decide +kernel) (by decide +kernel)
theorem w_242 : Cond.code y_T_judge prog_6_method_8_code 3 (Option.some FieldType.int) ∈ xG := xG_at 242 (by decide +kernel) (by decide +kernel)
theorem w_243 : Cond.methodLink "LineCoder$TenReceiver" 76 y_T_mark ∈ xG := xG_at 243 (by decide +kernel) (by decide +kernel)
theorem w_245 : Cond.instanceMethod y_T_mark ∈ xG := xG_at 245 (by decide +kernel) (by decide +kernel)
theorem w_246 : Cond.code y_T_mark prog_6_method_9_code 1 none ∈ xG := xG_at 246 (by decide +kernel) (by decide +kernel)
theorem w_247 : Cond.methodLink "LineCoder$TenReceiver" 82 y_T_praise ∈ xG := xG_at 247 (by decide +kernel) (by decide +kernel)
theorem w_249 : Cond.instanceMethod y_T_praise ∈ xG := xG_at 249 (by decide +kernel) (by decide +kernel)
theorem w_250 : Cond.code y_T_praise prog_6_method_10_code 1 none ∈ xG := xG_at 250 (by decide +kernel) (by decide +kernel)
theorem w_251 : Cond.methodLink "LineCoder$TenReceiver" 85 y_JM_max ∈ xG := xG_at 251 (by decide +kernel) (by decide +kernel)
theorem w_252 : Cond.static y_JM_max ∈ xG := xG_at 252 (by decide +kernel) (by decide +kernel)
theorem w_253 : Cond.code y_JM_max prog_16_method_65_code 2 (Option.some FieldType.int) ∈ xG := xG_at 253 (by decide +kernel) (by decide +kernel)
theorem w_254 : Cond.methodLink "LineCoderLaw" 79 y_X_take ∈ xG := xG_at 254 (by decide +kernel) (by decide +kernel)
theorem w_255 : Cond.instanceMethod y_X_take ∈ xG := xG_at 255 (by decide +kernel) (by decide +kernel)
theorem w_256 : Cond.selects "LineCoder" y_X_take y_X_take ∈ xG := xG_at 256 (by decide +kernel) (by decide +kernel)
theorem w_257 : Cond.code y_X_take prog_1_method_7_code 1 (Option.some FieldType.int) ∈ xG := xG_at 257 (by decide +kernel) (by decide +kernel)
theorem w_258 : Cond.methodLink "LineCoder" 91 y_W_step ∈ xG := xG_at 258 (by decide +kernel) (by decide +kernel)
theorem w_259 : Cond.instanceMethod y_W_step ∈ xG := xG_at 259 (by decide +kernel) (by decide +kernel)
theorem w_260 : Cond.selects "LineCoder$WordReceiver" y_W_step y_W_step ∈ xG := xG_at 260 (by decide +kernel) (by decide +kernel)
theorem w_261 : Cond.code y_W_step prog_8_method_5_code 3 (Option.some FieldType.int) ∈ xG := xG_at 261 (by decide +kernel) (by decide +kernel)
theorem w_262 : Cond.methodLink "LineCoder$WordReceiver" 51 y_L_left ∈ xG := xG_at 262 (by decide +kernel) (by decide +kernel)
theorem w_263 : Cond.methodLink "LineCoder$WordReceiver" 59 y_L_ahead ∈ xG := xG_at 263 (by decide +kernel) (by decide +kernel)
theorem w_264 : Cond.methodLink "LineCoder$WordReceiver" 62 (⟨"LineCoder$WordReceiver", "slip", "()I"⟩ : MethodName) ∈ xG := xG_at 264 (by decide +kernel) (by decide +kernel)
theorem w_265 : Cond.sameMethod "LineCoder$WordReceiver" "LineCoder$Receiver" "slip" "()I" ∈ xG := xG_at 265 (by decide +kernel) (by decide +kernel)
theorem w_266 : Cond.selects "LineCoder$WordReceiver" (⟨"LineCoder$WordReceiver", "slip", "()I"⟩ : MethodName) y_R_slip ∈ xG := xG_at 266 (by decide +kernel) (by decide +kernel)
theorem w_267 : Cond.methodLink "LineCoder$WordReceiver" 65 y_W_takeWord ∈ xG := xG_at 267 (by decide +kernel) (by decide +kernel)
theorem w_269 : Cond.instanceMethod y_W_takeWord ∈ xG := xG_at 269 (by decide +kernel) (by decide +kernel)
theorem w_270 : Cond.code y_W_takeWord prog_8_method_6_code 6 none ∈ xG := xG_at 270 (by decide +kernel) (by decide +kernel)
theorem w_271 : Cond.methodLink "LineCoder$WordReceiver" 78 y_L_advance ∈ xG := xG_at 271 (by decide +kernel) (by decide +kernel)
theorem w_272 : Cond.methodLink "LineCoder$WordReceiver" 82 y_S_stirBack ∈ xG := xG_at 272 (by decide +kernel) (by decide +kernel)
theorem w_273 : Cond.instanceMethod y_S_stirBack ∈ xG := xG_at 273 (by decide +kernel) (by decide +kernel)
theorem w_274 : Cond.selects "LineCoder$Stirrer" y_S_stirBack y_S_stirBack ∈ xG := xG_at 274 (by decide +kernel) (by decide +kernel)
theorem w_275 : Cond.code y_S_stirBack prog_4_method_4_code 3 (Option.some FieldType.int) ∈ xG := xG_at 275 (by decide +kernel) (by decide +kernel)
theorem w_276 : Cond.methodLink "LineCoder$Stirrer" 15 y_S_turning ∈ xG := xG_at 276 (by decide +kernel) (by decide +kernel)
theorem w_278 : Cond.instanceMethod y_S_turning ∈ xG := xG_at 278 (by decide +kernel) (by decide +kernel)
theorem w_279 : Cond.code y_S_turning prog_4_method_5_code 1 (Option.some FieldType.int) ∈ xG := xG_at 279 (by decide +kernel) (by decide +kernel)
theorem w_280 : Cond.methodLink "LineCoder$Stirrer" 19 y_S_remember ∈ xG := xG_at 280 (by decide +kernel) (by decide +kernel)
theorem w_282 : Cond.instanceMethod y_S_remember ∈ xG := xG_at 282 (by decide +kernel) (by decide +kernel)
theorem w_283 : Cond.code y_S_remember prog_4_method_6_code 2 none ∈ xG := xG_at 283 (by decide +kernel) (by decide +kernel)
theorem w_284 : Cond.methodLink "LineCoder$WordReceiver" 68 y_W_watch ∈ xG := xG_at 284 (by decide +kernel) (by decide +kernel)
theorem w_286 : Cond.instanceMethod y_W_watch ∈ xG := xG_at 286 (by decide +kernel) (by decide +kernel)
theorem w_287 : Cond.code y_W_watch prog_8_method_8_code 2 none ∈ xG := xG_at 287 (by decide +kernel) (by decide +kernel)
theorem w_288 : Cond.constant "LineCoder$WordReceiver" 85 (65535 : Int32) ∈ xG := xG_at 288 (by decide +kernel) (by decide +kernel)
theorem w_289 : Cond.methodLink "LineCoder$WordReceiver" 41 y_JI_bitCount ∈ xG := xG_at 289 (by decide +kernel) (by decide +kernel)
theorem w_290 : Cond.methodLink "LineCoder$WordReceiver" 72 y_W_gain ∈ xG := xG_at 290 (by decide +kernel) (by decide +kernel)
theorem w_292 : Cond.instanceMethod y_W_gain ∈ xG := xG_at 292 (by decide +kernel) (by decide +kernel)
theorem w_293 : Cond.code y_W_gain prog_8_method_7_code 1 none ∈ xG := xG_at 293 (by decide +kernel) (by decide +kernel)
theorem w_294 : Cond.methodLink "LineCoderLaw" 83 y_X_word ∈ xG := xG_at 294 (by decide +kernel) (by decide +kernel)
theorem w_295 : Cond.instanceMethod y_X_word ∈ xG := xG_at 295 (by decide +kernel) (by decide +kernel)
theorem w_296 : Cond.selects "LineCoder" y_X_word y_X_word ∈ xG := xG_at 296 (by decide +kernel) (by decide +kernel)
theorem w_297 : Cond.code y_X_word prog_1_method_8_code 1 (Option.some FieldType.long) ∈ xG := xG_at 297 (by decide +kernel) (by decide +kernel)
theorem w_298 : Cond.methodLink "LineCoder" 92 y_W_lastWord ∈ xG := xG_at 298 (by decide +kernel) (by decide +kernel)
theorem w_299 : Cond.instanceMethod y_W_lastWord ∈ xG := xG_at 299 (by decide +kernel) (by decide +kernel)
theorem w_300 : Cond.selects "LineCoder$WordReceiver" y_W_lastWord y_W_lastWord ∈ xG := xG_at 300 (by decide +kernel) (by decide +kernel)
theorem w_301 : Cond.code y_W_lastWord prog_8_method_3_code 1 (Option.some FieldType.long) ∈ xG := xG_at 301 (by decide +kernel) (by decide +kernel)
theorem w_302 : Cond.methodLink "LineCoderLaw" 105 y_X_isPlus ∈ xG := xG_at 302 (by decide +kernel) (by decide +kernel)
theorem w_303 : Cond.instanceMethod y_X_isPlus ∈ xG := xG_at 303 (by decide +kernel) (by decide +kernel)
theorem w_304 : Cond.selects "LineCoder" y_X_isPlus y_X_isPlus ∈ xG := xG_at 304 (by decide +kernel) (by decide +kernel)
theorem w_305 : Cond.code y_X_isPlus prog_1_method_14_code 2 (Option.some FieldType.boolean) ∈ xG := xG_at 305 (by decide +kernel) (by decide +kernel)
theorem w_306 : Cond.methodLink "LineCoder" 154 y_T_hasPlus ∈ xG := xG_at 306 (by decide +kernel) (by decide +kernel)
theorem w_307 : Cond.instanceMethod y_T_hasPlus ∈ xG := xG_at 307 (by decide +kernel) (by decide +kernel)
theorem w_308 : Cond.selects "LineCoder$TenReceiver" y_T_hasPlus y_T_hasPlus ∈ xG := xG_at 308 (by decide +kernel) (by decide +kernel)
theorem w_309 : Cond.code y_T_hasPlus prog_6_method_3_code 1 (Option.some FieldType.boolean) ∈ xG := xG_at 309 (by decide +kernel) (by decide +kernel)
theorem w_310 : Cond.methodLink "LineCoderLaw" 110 y_X_clear ∈ xG := xG_at 310 (by decide +kernel) (by decide +kernel)
theorem w_311 : Cond.instanceMethod y_X_clear ∈ xG := xG_at 311 (by decide +kernel) (by decide +kernel)
theorem w_312 : Cond.selects "LineCoder" y_X_clear y_X_clear ∈ xG := xG_at 312 (by decide +kernel) (by decide +kernel)
theorem w_313 : Cond.code y_X_clear prog_1_method_15_code 1 none ∈ xG := xG_at 313 (by decide +kernel) (by decide +kernel)
theorem w_314 : Cond.methodLink "LineCoder" 157 y_L_empty ∈ xG := xG_at 314 (by decide +kernel) (by decide +kernel)
theorem w_315 : Cond.instanceMethod y_L_empty ∈ xG := xG_at 315 (by decide +kernel) (by decide +kernel)
theorem w_316 : Cond.selects "LineCoder$Line" y_L_empty y_L_empty ∈ xG := xG_at 316 (by decide +kernel) (by decide +kernel)
theorem w_317 : Cond.code y_L_empty prog_2_method_2_code 1 none ∈ xG := xG_at 317 (by decide +kernel) (by decide +kernel)
theorem w_318 : Cond.methodLink "LineCoder" 160 y_T_restart ∈ xG := xG_at 318 (by decide +kernel) (by decide +kernel)
theorem w_319 : Cond.instanceMethod y_T_restart ∈ xG := xG_at 319 (by decide +kernel) (by decide +kernel)
theorem w_320 : Cond.selects "LineCoder$TenReceiver" y_T_restart y_T_restart ∈ xG := xG_at 320 (by decide +kernel) (by decide +kernel)
theorem w_321 : Cond.code y_T_restart prog_6_method_2_code 1 none ∈ xG := xG_at 321 (by decide +kernel) (by decide +kernel)
theorem w_322 : Cond.methodLink "LineCoder$TenReceiver" 25 (⟨"LineCoder$TenReceiver", "countAnew", "()V"⟩ : MethodName) ∈ xG := xG_at 322 (by decide +kernel) (by decide +kernel)
theorem w_323 : Cond.sameMethod "LineCoder$TenReceiver" "LineCoder$Receiver" "countAnew" "()V" ∈ xG := xG_at 323 (by decide +kernel) (by decide +kernel)
theorem w_324 : Cond.declares y_R_countAnew ∈ xG := xG_at 324 (by decide +kernel) (by decide +kernel)
theorem w_325 : Cond.selects "LineCoder$TenReceiver" (⟨"LineCoder$TenReceiver", "countAnew", "()V"⟩ : MethodName) y_R_countAnew ∈ xG := xG_at 325 (by decide +kernel) (by decide +kernel)
theorem w_326 : Cond.instanceMethod y_R_countAnew ∈ xG := xG_at 326 (by decide +kernel) (by decide +kernel)
theorem w_327 : Cond.code y_R_countAnew prog_3_method_7_code 1 none ∈ xG := xG_at 327 (by decide +kernel) (by decide +kernel)
theorem w_328 : Cond.methodLink "LineCoder" 163 y_W_restart ∈ xG := xG_at 328 (by decide +kernel) (by decide +kernel)
theorem w_329 : Cond.instanceMethod y_W_restart ∈ xG := xG_at 329 (by decide +kernel) (by decide +kernel)
theorem w_330 : Cond.selects "LineCoder$WordReceiver" y_W_restart y_W_restart ∈ xG := xG_at 330 (by decide +kernel) (by decide +kernel)
theorem w_331 : Cond.code y_W_restart prog_8_method_2_code 1 none ∈ xG := xG_at 331 (by decide +kernel) (by decide +kernel)
theorem w_332 : Cond.methodLink "LineCoder$WordReceiver" 31 (⟨"LineCoder$WordReceiver", "countAnew", "()V"⟩ : MethodName) ∈ xG := xG_at 332 (by decide +kernel) (by decide +kernel)
theorem w_333 : Cond.sameMethod "LineCoder$WordReceiver" "LineCoder$Receiver" "countAnew" "()V" ∈ xG := xG_at 333 (by decide +kernel) (by decide +kernel)
theorem w_334 : Cond.selects "LineCoder$WordReceiver" (⟨"LineCoder$WordReceiver", "countAnew", "()V"⟩ : MethodName) y_R_countAnew ∈ xG := xG_at 334 (by decide +kernel) (by decide +kernel)
theorem w_335 : Cond.methodLink "LineCoder$WordReceiver" 34 y_S_forget ∈ xG := xG_at 335 (by decide +kernel) (by decide +kernel)
theorem w_336 : Cond.instanceMethod y_S_forget ∈ xG := xG_at 336 (by decide +kernel) (by decide +kernel)
theorem w_337 : Cond.selects "LineCoder$Stirrer" y_S_forget y_S_forget ∈ xG := xG_at 337 (by decide +kernel) (by decide +kernel)
theorem w_338 : Cond.code y_S_forget prog_4_method_2_code 1 none ∈ xG := xG_at 338 (by decide +kernel) (by decide +kernel)
theorem w_339 : Cond.methodLink "LineCoder" 164 y_S_forget ∈ xG := xG_at 339 (by decide +kernel) (by decide +kernel)
theorem w_340 : Cond.methodLink "LineCoderLaw" 52 y_Q_code ∈ xG := xG_at 340 (by decide +kernel) (by decide +kernel)
theorem w_341 : Cond.static y_Q_code ∈ xG := xG_at 341 (by decide +kernel) (by decide +kernel)
theorem w_342 : Cond.codeWith y_Q_code method_3_code 5 (Option.some FieldType.int) [(0, 10, 13, 13)] ∈ xG := xG_at 342 (by decide +kernel) (by decide +kernel)
theorem w_343 : Cond.classLink "LineCoderLaw" 13 "java/lang/IllegalArgumentException" ∈ xG := xG_at 343 (by decide +kernel) (by decide +kernel)
theorem w_344 : Cond.methodLink "LineCoderLaw" 7 y_X_code ∈ xG := xG_at 344 (by decide +kernel) (by decide +kernel)
theorem w_345 : Cond.instanceMethod y_X_code ∈ xG := xG_at 345 (by decide +kernel) (by decide +kernel)
theorem w_346 : Cond.selects "LineCoder" y_X_code y_X_code ∈ xG := xG_at 346 (by decide +kernel) (by decide +kernel)
theorem w_347 : Cond.code y_X_code prog_1_method_2_code 3 (Option.some FieldType.int) ∈ xG := xG_at 347 (by decide +kernel) (by decide +kernel)
theorem w_348 : Cond.methodLink "LineCoder" 46 y_X_refuseNoSymbol ∈ xG := xG_at 348 (by decide +kernel) (by decide +kernel)
theorem w_349 : Cond.static y_X_refuseNoSymbol ∈ xG := xG_at 349 (by decide +kernel) (by decide +kernel)
theorem w_350 : Cond.code y_X_refuseNoSymbol prog_1_method_17_code 1 none ∈ xG := xG_at 350 (by decide +kernel) (by decide +kernel)
theorem w_351 : Cond.methodLink "LineCoder" 169 y_K_isSymbol ∈ xG := xG_at 351 (by decide +kernel) (by decide +kernel)
theorem w_352 : Cond.classLink "LineCoder" 56 "java/lang/IllegalArgumentException" ∈ xG := xG_at 352 (by decide +kernel) (by decide +kernel)
theorem w_353 : Cond.instantiable "java/lang/IllegalArgumentException" 6 ∈ xG := xG_at 353 (by decide +kernel) (by decide +kernel)
theorem w_354 : Cond.castable "java/lang/IllegalArgumentException" "java/lang/IllegalArgumentException" ∈ xG := xG_at 354 (by decide +kernel) (by decide +kernel)
theorem w_355 : Cond.declares (⟨"java/lang/RuntimeException", "<init>", "()V"⟩ : MethodName) ∈ xG := xG_at 355 (by decide +kernel) (by decide +kernel)
theorem w_356 : Cond.declares (⟨"java/lang/RuntimeException", "<init>", "(Ljava/lang/String;)V"⟩ : MethodName) ∈ xG := xG_at 356 (by decide +kernel) (by decide +kernel)
theorem w_357 : Cond.declares (⟨"java/lang/Exception", "<init>", "()V"⟩ : MethodName) ∈ xG := xG_at 357 (by decide +kernel) (by decide +kernel)
theorem w_358 : Cond.declares (⟨"java/lang/Exception", "<init>", "(Ljava/lang/String;)V"⟩ : MethodName) ∈ xG := xG_at 358 (by decide +kernel) (by decide +kernel)
theorem w_359 : Cond.declares (⟨"java/lang/Throwable", "<init>", "()V"⟩ : MethodName) ∈ xG := xG_at 359 (by decide +kernel) (by decide +kernel)
theorem w_360 : Cond.declares (⟨"java/lang/Throwable", "<init>", "(Ljava/lang/String;)V"⟩ : MethodName) ∈ xG := xG_at 360 (by decide +kernel) (by decide +kernel)
theorem w_361 : Cond.selects "java/lang/IllegalArgumentException" (⟨"java/lang/Throwable", "fillInStackTrace", "(I)Ljava/lang/Throwable;"⟩ : MethodName) (⟨"java/lang/Throwable", "fillInStackTrace", "(I)Ljava/lang/Throwable;"⟩ : MethodName) ∈ xG := xG_at 361 (by decide +kernel) (by decide +kernel)
theorem w_362 : Cond.selects "java/lang/IllegalArgumentException" (⟨"java/lang/Throwable", "fillInStackTrace", "()Ljava/lang/Throwable;"⟩ : MethodName) (⟨"java/lang/Throwable", "fillInStackTrace", "()Ljava/lang/Throwable;"⟩ : MethodName) ∈ xG := xG_at 362 (by decide +kernel) (by decide +kernel)
theorem w_363 : Cond.lays "java/lang/IllegalArgumentException" "java/lang/Throwable" "cause" "Ljava/lang/Throwable;" ∈ xG := xG_at 363 (by decide +kernel) (by decide +kernel)
theorem w_364 : Cond.lays "java/lang/Throwable" "java/lang/Throwable" "cause" "Ljava/lang/Throwable;" ∈ xG := xG_at 364 (by decide +kernel) (by decide +kernel)
theorem w_365 : Cond.lays "java/lang/IllegalArgumentException" "java/lang/Throwable" "stackTrace" "[Ljava/lang/StackTraceElement;" ∈ xG := xG_at 365 (by decide +kernel) (by decide +kernel)
theorem w_366 : Cond.lays "java/lang/Throwable" "java/lang/Throwable" "stackTrace" "[Ljava/lang/StackTraceElement;" ∈ xG := xG_at 366 (by decide +kernel) (by decide +kernel)
theorem w_367 : Cond.lays "java/lang/IllegalArgumentException" "java/lang/Throwable" "suppressedExceptions" "Ljava/util/List;" ∈ xG := xG_at 367 (by decide +kernel) (by decide +kernel)
theorem w_368 : Cond.lays "java/lang/Throwable" "java/lang/Throwable" "suppressedExceptions" "Ljava/util/List;" ∈ xG := xG_at 368 (by decide +kernel) (by decide +kernel)
theorem w_369 : Cond.lays "java/lang/IllegalArgumentException" "java/lang/Throwable" "detailMessage" "Ljava/lang/String;" ∈ xG := xG_at 369 (by decide +kernel) (by decide +kernel)
theorem w_370 : Cond.lays "java/lang/Throwable" "java/lang/Throwable" "detailMessage" "Ljava/lang/String;" ∈ xG := xG_at 370 (by decide +kernel) (by decide +kernel)
theorem w_371 : Cond.lays "java/lang/IllegalArgumentException" "java/lang/Throwable" "backtrace" "Ljava/lang/Object;" ∈ xG := xG_at 371 (by decide +kernel) (by decide +kernel)
theorem w_372 : Cond.lays "java/lang/Throwable" "java/lang/Throwable" "backtrace" "Ljava/lang/Object;" ∈ xG := xG_at 372 (by decide +kernel) (by decide +kernel)
theorem w_373 : Cond.fieldLink "java/lang/Throwable" 198 "java/lang/Throwable" "backtrace" "Ljava/lang/Object;" ∈ xG := xG_at 373 (by decide +kernel) (by decide +kernel)
theorem w_374 : Cond.superclass "java/lang/Throwable" "java/lang/Object" ∈ xG := xG_at 374 (by decide +kernel) (by decide +kernel)
theorem w_375 : Cond.instanceMethod (⟨"java/lang/Throwable", "<init>", "()V"⟩ : MethodName) ∈ xG := xG_at 375 (by decide +kernel) (by decide +kernel)
theorem w_376 : Cond.code (⟨"java/lang/Throwable", "<init>", "()V"⟩ : MethodName) prog_20_method_1_code 1 none ∈ xG := xG_at 376 (by decide +kernel) (by decide +kernel)
theorem w_377 : Cond.methodLink "java/lang/Throwable" 1 (⟨"java/lang/Object", "<init>", "()V"⟩ : MethodName) ∈ xG := xG_at 377 (by decide +kernel) (by decide +kernel)
theorem w_378 : Cond.fieldLink "java/lang/Throwable" 13 "java/lang/Throwable" "UNASSIGNED_STACK" "[Ljava/lang/StackTraceElement;" ∈ xG := xG_at 378 (by decide +kernel) (by decide +kernel)
theorem w_380 : Cond.fieldLink "java/lang/Throwable" 20 "java/lang/Throwable" "SUPPRESSED_SENTINEL" "Ljava/util/List;" ∈ xG := xG_at 380 (by decide +kernel) (by decide +kernel)
theorem w_382 : Cond.methodLink "java/lang/Throwable" 27 (⟨"java/lang/Throwable", "fillInStackTrace", "()Ljava/lang/Throwable;"⟩ : MethodName) ∈ xG := xG_at 382 (by decide +kernel) (by decide +kernel)
theorem w_383 : Cond.instanceMethod (⟨"java/lang/Throwable", "fillInStackTrace", "()Ljava/lang/Throwable;"⟩ : MethodName) ∈ xG := xG_at 383 (by decide +kernel) (by decide +kernel)
theorem w_384 : Cond.sameMethod "java/lang/Throwable" "java/lang/Throwable" "fillInStackTrace" "()Ljava/lang/Throwable;" ∈ xG := xG_at 384 (by decide +kernel) (by decide +kernel)
theorem w_385 : Cond.selects "java/lang/IllegalStateException" (⟨"java/lang/Throwable", "fillInStackTrace", "()Ljava/lang/Throwable;"⟩ : MethodName) (⟨"java/lang/Throwable", "fillInStackTrace", "()Ljava/lang/Throwable;"⟩ : MethodName) ∈ xG := xG_at 385 (by decide +kernel) (by decide +kernel)
theorem w_386 : Cond.selects "java/lang/IndexOutOfBoundsException" (⟨"java/lang/Throwable", "fillInStackTrace", "()Ljava/lang/Throwable;"⟩ : MethodName) (⟨"java/lang/Throwable", "fillInStackTrace", "()Ljava/lang/Throwable;"⟩ : MethodName) ∈ xG := xG_at 386 (by decide +kernel) (by decide +kernel)
theorem w_387 : Cond.codeSync (⟨"java/lang/Throwable", "fillInStackTrace", "()Ljava/lang/Throwable;"⟩ : MethodName) prog_20_method_18_code 1 (Option.some (FieldType.object "java/lang/Throwable")) ∈ xG := xG_at 387 (by decide +kernel) (by decide +kernel)
theorem w_388 : Cond.methodLink "java/lang/Throwable" 202 (⟨"java/lang/Throwable", "fillInStackTrace", "(I)Ljava/lang/Throwable;"⟩ : MethodName) ∈ xG := xG_at 388 (by decide +kernel) (by decide +kernel)
theorem w_390 : Cond.instanceMethod (⟨"java/lang/Throwable", "fillInStackTrace", "(I)Ljava/lang/Throwable;"⟩ : MethodName) ∈ xG := xG_at 390 (by decide +kernel) (by decide +kernel)
theorem w_391 : Cond.instantiable "java/lang/Throwable" 6 ∈ xG := xG_at 391 (by decide +kernel) (by decide +kernel)
theorem w_392 : Cond.native (⟨"java/lang/Throwable", "fillInStackTrace", "(I)Ljava/lang/Throwable;"⟩ : MethodName) ∈ xG := xG_at 392 (by decide +kernel) (by decide +kernel)
theorem w_393 : Cond.stringRef "LineCoder" 172 "no symbol" ∈ xG := xG_at 393 (by decide +kernel) (by decide +kernel)
theorem w_394 : Cond.methodLink "LineCoder" 60 (⟨"java/lang/IllegalArgumentException", "<init>", "(Ljava/lang/String;)V"⟩ : MethodName) ∈ xG := xG_at 394 (by decide +kernel) (by decide +kernel)
theorem w_395 : Cond.instanceMethod (⟨"java/lang/IllegalArgumentException", "<init>", "(Ljava/lang/String;)V"⟩ : MethodName) ∈ xG := xG_at 395 (by decide +kernel) (by decide +kernel)
theorem w_396 : Cond.code (⟨"java/lang/IllegalArgumentException", "<init>", "(Ljava/lang/String;)V"⟩ : MethodName) prog_12_method_2_code 2 none ∈ xG := xG_at 396 (by decide +kernel) (by decide +kernel)
theorem w_397 : Cond.methodLink "java/lang/IllegalArgumentException" 7 (⟨"java/lang/RuntimeException", "<init>", "(Ljava/lang/String;)V"⟩ : MethodName) ∈ xG := xG_at 397 (by decide +kernel) (by decide +kernel)
theorem w_398 : Cond.instanceMethod (⟨"java/lang/RuntimeException", "<init>", "(Ljava/lang/String;)V"⟩ : MethodName) ∈ xG := xG_at 398 (by decide +kernel) (by decide +kernel)
theorem w_399 : Cond.code (⟨"java/lang/RuntimeException", "<init>", "(Ljava/lang/String;)V"⟩ : MethodName) prog_17_method_2_code 2 none ∈ xG := xG_at 399 (by decide +kernel) (by decide +kernel)
theorem w_400 : Cond.methodLink "java/lang/RuntimeException" 7 (⟨"java/lang/Exception", "<init>", "(Ljava/lang/String;)V"⟩ : MethodName) ∈ xG := xG_at 400 (by decide +kernel) (by decide +kernel)
theorem w_401 : Cond.instanceMethod (⟨"java/lang/Exception", "<init>", "(Ljava/lang/String;)V"⟩ : MethodName) ∈ xG := xG_at 401 (by decide +kernel) (by decide +kernel)
theorem w_402 : Cond.code (⟨"java/lang/Exception", "<init>", "(Ljava/lang/String;)V"⟩ : MethodName) prog_11_method_2_code 2 none ∈ xG := xG_at 402 (by decide +kernel) (by decide +kernel)
theorem w_403 : Cond.methodLink "java/lang/Exception" 7 (⟨"java/lang/Throwable", "<init>", "(Ljava/lang/String;)V"⟩ : MethodName) ∈ xG := xG_at 403 (by decide +kernel) (by decide +kernel)
theorem w_404 : Cond.instanceMethod (⟨"java/lang/Throwable", "<init>", "(Ljava/lang/String;)V"⟩ : MethodName) ∈ xG := xG_at 404 (by decide +kernel) (by decide +kernel)
theorem w_405 : Cond.code (⟨"java/lang/Throwable", "<init>", "(Ljava/lang/String;)V"⟩ : MethodName) prog_20_method_2_code 2 none ∈ xG := xG_at 405 (by decide +kernel) (by decide +kernel)
theorem w_406 : Cond.fieldLink "java/lang/Throwable" 198 "java/lang/Throwable" "backtrace" "Ljava/lang/Object;" ∈ xG := xG_at 406 (by decide +kernel) (by decide +kernel)
theorem w_407 : Cond.fieldLink "java/lang/Throwable" 31 "java/lang/Throwable" "detailMessage" "Ljava/lang/String;" ∈ xG := xG_at 407 (by decide +kernel) (by decide +kernel)
theorem w_408 : Cond.fieldLink "java/lang/Throwable" 7 "java/lang/Throwable" "cause" "Ljava/lang/Throwable;" ∈ xG := xG_at 408 (by decide +kernel) (by decide +kernel)
theorem w_409 : Cond.fieldLink "java/lang/Throwable" 17 "java/lang/Throwable" "stackTrace" "[Ljava/lang/StackTraceElement;" ∈ xG := xG_at 409 (by decide +kernel) (by decide +kernel)
theorem w_410 : Cond.fieldLink "java/lang/Throwable" 24 "java/lang/Throwable" "suppressedExceptions" "Ljava/util/List;" ∈ xG := xG_at 410 (by decide +kernel) (by decide +kernel)
theorem w_411 : Cond.soleField "java/lang/Throwable" "backtrace" ∈ xG := xG_at 411 (by decide +kernel) (by decide +kernel)
theorem w_412 : Cond.soleField "java/lang/Throwable" "detailMessage" ∈ xG := xG_at 412 (by decide +kernel) (by decide +kernel)
theorem w_413 : Cond.soleField "java/lang/Throwable" "cause" ∈ xG := xG_at 413 (by decide +kernel) (by decide +kernel)
theorem w_414 : Cond.soleField "java/lang/Throwable" "stackTrace" ∈ xG := xG_at 414 (by decide +kernel) (by decide +kernel)
theorem w_415 : Cond.lays "java/lang/IllegalArgumentException" "java/lang/Throwable" "depth" "I" ∈ xG := xG_at 415 (by decide +kernel) (by decide +kernel)
theorem w_416 : Cond.soleField "java/lang/Throwable" "depth" ∈ xG := xG_at 416 (by decide +kernel) (by decide +kernel)
theorem w_417 : Cond.soleField "java/lang/Throwable" "suppressedExceptions" ∈ xG := xG_at 417 (by decide +kernel) (by decide +kernel)
theorem w_418 : Cond.superclass "java/lang/IllegalArgumentException" "java/lang/RuntimeException" ∈ xG := xG_at 418 (by decide +kernel) (by decide +kernel)
theorem w_419 : Cond.methodLink "LineCoder" 50 y_K_encode ∈ xG := xG_at 419 (by decide +kernel) (by decide +kernel)
theorem w_420 : Cond.methodLink "LineCoderLaw" 62 y_Q_symbol ∈ xG := xG_at 420 (by decide +kernel) (by decide +kernel)
theorem w_421 : Cond.static y_Q_symbol ∈ xG := xG_at 421 (by decide +kernel) (by decide +kernel)
theorem w_422 : Cond.codeWith y_Q_symbol method_4_code 4 (Option.some FieldType.int) [(0, 9, 12, 13)] ∈ xG := xG_at 422 (by decide +kernel) (by decide +kernel)
theorem w_423 : Cond.methodLink "LineCoderLaw" 15 y_X_symbol ∈ xG := xG_at 423 (by decide +kernel) (by decide +kernel)
theorem w_424 : Cond.instanceMethod y_X_symbol ∈ xG := xG_at 424 (by decide +kernel) (by decide +kernel)
theorem w_425 : Cond.selects "LineCoder" y_X_symbol y_X_symbol ∈ xG := xG_at 425 (by decide +kernel) (by decide +kernel)
theorem w_426 : Cond.code y_X_symbol prog_1_method_3_code 3 (Option.some FieldType.int) ∈ xG := xG_at 426 (by decide +kernel) (by decide +kernel)
theorem w_427 : Cond.stringRef "LineCoder" 58 "not ten bits" ∈ xG := xG_at 427 (by decide +kernel) (by decide +kernel)
theorem w_428 : Cond.methodLink "LineCoder" 63 y_K_decode ∈ xG := xG_at 428 (by decide +kernel) (by decide +kernel)
theorem w_429 : Cond.methodLink "LineCoderLaw" 66 y_Q_send ∈ xG := xG_at 429 (by decide +kernel) (by decide +kernel)
theorem w_430 : Cond.static y_Q_send ∈ xG := xG_at 430 (by decide +kernel) (by decide +kernel)
theorem w_431 : Cond.codeWith y_Q_send method_5_code 4 (Option.some FieldType.int) [(0, 9, 12, 13), (0, 9, 15, 22)] ∈ xG := xG_at 431 (by decide +kernel) (by decide +kernel)
theorem w_432 : Cond.classLink "LineCoderLaw" 22 "java/lang/IllegalStateException" ∈ xG := xG_at 432 (by decide +kernel) (by decide +kernel)
theorem w_433 : Cond.methodLink "LineCoderLaw" 19 y_X_send ∈ xG := xG_at 433 (by decide +kernel) (by decide +kernel)
theorem w_434 : Cond.instanceMethod y_X_send ∈ xG := xG_at 434 (by decide +kernel) (by decide +kernel)
theorem w_435 : Cond.selects "LineCoder" y_X_send y_X_send ∈ xG := xG_at 435 (by decide +kernel) (by decide +kernel)
theorem w_436 : Cond.code y_X_send prog_1_method_4_code 3 (Option.some FieldType.int) ∈ xG := xG_at 436 (by decide +kernel) (by decide +kernel)
theorem w_437 : Cond.methodLink "LineCoder" 66 y_X_refuseNoRoom ∈ xG := xG_at 437 (by decide +kernel) (by decide +kernel)
theorem w_438 : Cond.static y_X_refuseNoRoom ∈ xG := xG_at 438 (by decide +kernel) (by decide +kernel)
theorem w_439 : Cond.code y_X_refuseNoRoom prog_1_method_18_code 2 none ∈ xG := xG_at 439 (by decide +kernel) (by decide +kernel)
theorem w_440 : Cond.methodLink "LineCoder" 174 y_L_hasRoom ∈ xG := xG_at 440 (by decide +kernel) (by decide +kernel)
theorem w_441 : Cond.instanceMethod y_L_hasRoom ∈ xG := xG_at 441 (by decide +kernel) (by decide +kernel)
theorem w_442 : Cond.selects "LineCoder$Line" y_L_hasRoom y_L_hasRoom ∈ xG := xG_at 442 (by decide +kernel) (by decide +kernel)
theorem w_443 : Cond.code y_L_hasRoom prog_2_method_7_code 2 (Option.some FieldType.boolean) ∈ xG := xG_at 443 (by decide +kernel) (by decide +kernel)
theorem w_444 : Cond.classLink "LineCoder" 177 "java/lang/IllegalStateException" ∈ xG := xG_at 444 (by decide +kernel) (by decide +kernel)
theorem w_445 : Cond.instantiable "java/lang/IllegalStateException" 6 ∈ xG := xG_at 445 (by decide +kernel) (by decide +kernel)
theorem w_446 : Cond.castable "java/lang/IllegalStateException" "java/lang/IllegalStateException" ∈ xG := xG_at 446 (by decide +kernel) (by decide +kernel)
theorem w_447 : Cond.selects "java/lang/IllegalStateException" (⟨"java/lang/Throwable", "fillInStackTrace", "(I)Ljava/lang/Throwable;"⟩ : MethodName) (⟨"java/lang/Throwable", "fillInStackTrace", "(I)Ljava/lang/Throwable;"⟩ : MethodName) ∈ xG := xG_at 447 (by decide +kernel) (by decide +kernel)
theorem w_448 : Cond.lays "java/lang/IllegalStateException" "java/lang/Throwable" "cause" "Ljava/lang/Throwable;" ∈ xG := xG_at 448 (by decide +kernel) (by decide +kernel)
theorem w_449 : Cond.lays "java/lang/IllegalStateException" "java/lang/Throwable" "stackTrace" "[Ljava/lang/StackTraceElement;" ∈ xG := xG_at 449 (by decide +kernel) (by decide +kernel)
theorem w_450 : Cond.lays "java/lang/IllegalStateException" "java/lang/Throwable" "suppressedExceptions" "Ljava/util/List;" ∈ xG := xG_at 450 (by decide +kernel) (by decide +kernel)
theorem w_451 : Cond.lays "java/lang/IllegalStateException" "java/lang/Throwable" "detailMessage" "Ljava/lang/String;" ∈ xG := xG_at 451 (by decide +kernel) (by decide +kernel)
theorem w_452 : Cond.lays "java/lang/IllegalStateException" "java/lang/Throwable" "backtrace" "Ljava/lang/Object;" ∈ xG := xG_at 452 (by decide +kernel) (by decide +kernel)
theorem w_453 : Cond.stringRef "LineCoder" 179 "no room in the stream" ∈ xG := xG_at 453 (by decide +kernel) (by decide +kernel)
theorem w_454 : Cond.methodLink "LineCoder" 181 (⟨"java/lang/IllegalStateException", "<init>", "(Ljava/lang/String;)V"⟩ : MethodName) ∈ xG := xG_at 454 (by decide +kernel) (by decide +kernel)
theorem w_455 : Cond.instanceMethod (⟨"java/lang/IllegalStateException", "<init>", "(Ljava/lang/String;)V"⟩ : MethodName) ∈ xG := xG_at 455 (by decide +kernel) (by decide +kernel)
theorem w_456 : Cond.code (⟨"java/lang/IllegalStateException", "<init>", "(Ljava/lang/String;)V"⟩ : MethodName) prog_13_method_2_code 2 none ∈ xG := xG_at 456 (by decide +kernel) (by decide +kernel)
theorem w_457 : Cond.methodLink "java/lang/IllegalStateException" 7 (⟨"java/lang/RuntimeException", "<init>", "(Ljava/lang/String;)V"⟩ : MethodName) ∈ xG := xG_at 457 (by decide +kernel) (by decide +kernel)
theorem w_458 : Cond.lays "java/lang/IllegalStateException" "java/lang/Throwable" "depth" "I" ∈ xG := xG_at 458 (by decide +kernel) (by decide +kernel)
theorem w_459 : Cond.superclass "java/lang/IllegalStateException" "java/lang/RuntimeException" ∈ xG := xG_at 459 (by decide +kernel) (by decide +kernel)
theorem w_460 : Cond.methodLink "LineCoder" 70 y_L_append ∈ xG := xG_at 460 (by decide +kernel) (by decide +kernel)
theorem w_461 : Cond.instanceMethod y_L_append ∈ xG := xG_at 461 (by decide +kernel) (by decide +kernel)
theorem w_462 : Cond.selects "LineCoder$Line" y_L_append y_L_append ∈ xG := xG_at 462 (by decide +kernel) (by decide +kernel)
theorem w_463 : Cond.code y_L_append prog_2_method_10_code 4 none ∈ xG := xG_at 463 (by decide +kernel) (by decide +kernel)
theorem w_464 : Cond.methodLink "LineCoder" 74 y_K_plusBehind ∈ xG := xG_at 464 (by decide +kernel) (by decide +kernel)
theorem w_465 : Cond.methodLink "LineCoderLaw" 75 y_Q_put ∈ xG := xG_at 465 (by decide +kernel) (by decide +kernel)
theorem w_466 : Cond.static y_Q_put ∈ xG := xG_at 466 (by decide +kernel) (by decide +kernel)
theorem w_467 : Cond.codeWith y_Q_put method_6_code 6 (Option.some FieldType.int) [(0, 11, 14, 22)] ∈ xG := xG_at 467 (by decide +kernel) (by decide +kernel)
theorem w_468 : Cond.methodLink "LineCoderLaw" 24 y_X_put ∈ xG := xG_at 468 (by decide +kernel) (by decide +kernel)
theorem w_469 : Cond.instanceMethod y_X_put ∈ xG := xG_at 469 (by decide +kernel) (by decide +kernel)
theorem w_470 : Cond.selects "LineCoder" y_X_put y_X_put ∈ xG := xG_at 470 (by decide +kernel) (by decide +kernel)
theorem w_471 : Cond.code y_X_put prog_1_method_6_code 6 (Option.some FieldType.int) ∈ xG := xG_at 471 (by decide +kernel) (by decide +kernel)
theorem w_472 : Cond.methodLink "LineCoder" 84 y_S_stir ∈ xG := xG_at 472 (by decide +kernel) (by decide +kernel)
theorem w_473 : Cond.instanceMethod y_S_stir ∈ xG := xG_at 473 (by decide +kernel) (by decide +kernel)
theorem w_474 : Cond.selects "LineCoder$Stirrer" y_S_stir y_S_stir ∈ xG := xG_at 474 (by decide +kernel) (by decide +kernel)
theorem w_475 : Cond.code y_S_stir prog_4_method_3_code 3 (Option.some FieldType.int) ∈ xG := xG_at 475 (by decide +kernel) (by decide +kernel)
theorem w_476 : Cond.methodLink "LineCoder" 88 y_L_size ∈ xG := xG_at 476 (by decide +kernel) (by decide +kernel)
theorem w_477 : Cond.instanceMethod y_L_size ∈ xG := xG_at 477 (by decide +kernel) (by decide +kernel)
theorem w_478 : Cond.selects "LineCoder$Line" y_L_size y_L_size ∈ xG := xG_at 478 (by decide +kernel) (by decide +kernel)
theorem w_479 : Cond.code y_L_size prog_2_method_3_code 1 (Option.some FieldType.int) ∈ xG := xG_at 479 (by decide +kernel) (by decide +kernel)
theorem w_480 : Cond.methodLink "LineCoderLaw" 88 y_Q_raw ∈ xG := xG_at 480 (by decide +kernel) (by decide +kernel)
theorem w_481 : Cond.static y_Q_raw ∈ xG := xG_at 481 (by decide +kernel) (by decide +kernel)
theorem w_482 : Cond.codeWith y_Q_raw method_7_code 6 (Option.some FieldType.int) [(0, 12, 15, 13), (0, 12, 19, 22)] ∈ xG := xG_at 482 (by decide +kernel) (by decide +kernel)
theorem w_483 : Cond.methodLink "LineCoderLaw" 28 y_X_raw ∈ xG := xG_at 483 (by decide +kernel) (by decide +kernel)
theorem w_484 : Cond.instanceMethod y_X_raw ∈ xG := xG_at 484 (by decide +kernel) (by decide +kernel)
theorem w_485 : Cond.selects "LineCoder" y_X_raw y_X_raw ∈ xG := xG_at 485 (by decide +kernel) (by decide +kernel)
theorem w_486 : Cond.code y_X_raw prog_1_method_9_code 5 (Option.some FieldType.int) ∈ xG := xG_at 486 (by decide +kernel) (by decide +kernel)
theorem w_487 : Cond.methodLink "LineCoder" 96 y_X_lineOf ∈ xG := xG_at 487 (by decide +kernel) (by decide +kernel)
theorem w_489 : Cond.instanceMethod y_X_lineOf ∈ xG := xG_at 489 (by decide +kernel) (by decide +kernel)
theorem w_490 : Cond.code y_X_lineOf prog_1_method_16_code 2 (Option.some (FieldType.object "LineCoder$Line")) ∈ xG := xG_at 490 (by decide +kernel) (by decide +kernel)
theorem w_491 : Cond.stringRef "LineCoder" 167 "no such stream" ∈ xG := xG_at 491 (by decide +kernel) (by decide +kernel)
theorem w_492 : Cond.stringRef "LineCoder" 100 "not 0 to 32 bits" ∈ xG := xG_at 492 (by decide +kernel) (by decide +kernel)
theorem w_493 : Cond.methodLink "LineCoderLaw" 92 y_Q_bend ∈ xG := xG_at 493 (by decide +kernel) (by decide +kernel)
theorem w_494 : Cond.static y_Q_bend ∈ xG := xG_at 494 (by decide +kernel) (by decide +kernel)
theorem w_495 : Cond.codeWith y_Q_bend method_8_code 5 (Option.some FieldType.int) [(0, 17, 20, 13), (0, 17, 24, 36)] ∈ xG := xG_at 495 (by decide +kernel) (by decide +kernel)
theorem w_496 : Cond.classLink "LineCoderLaw" 36 "java/lang/IndexOutOfBoundsException" ∈ xG := xG_at 496 (by decide +kernel) (by decide +kernel)
theorem w_497 : Cond.methodLink "LineCoderLaw" 32 y_X_bend ∈ xG := xG_at 497 (by decide +kernel) (by decide +kernel)
theorem w_498 : Cond.instanceMethod y_X_bend ∈ xG := xG_at 498 (by decide +kernel) (by decide +kernel)
theorem w_499 : Cond.selects "LineCoder" y_X_bend y_X_bend ∈ xG := xG_at 499 (by decide +kernel) (by decide +kernel)
theorem w_500 : Cond.code y_X_bend prog_1_method_10_code 4 (Option.some FieldType.boolean) ∈ xG := xG_at 500 (by decide +kernel) (by decide +kernel)
theorem w_501 : Cond.methodLink "LineCoder" 102 y_L_has ∈ xG := xG_at 501 (by decide +kernel) (by decide +kernel)
theorem w_502 : Cond.classLink "LineCoder" 106 "java/lang/IndexOutOfBoundsException" ∈ xG := xG_at 502 (by decide +kernel) (by decide +kernel)
theorem w_503 : Cond.instantiable "java/lang/IndexOutOfBoundsException" 6 ∈ xG := xG_at 503 (by decide +kernel) (by decide +kernel)
theorem w_504 : Cond.castable "java/lang/IndexOutOfBoundsException" "java/lang/IndexOutOfBoundsException" ∈ xG := xG_at 504 (by decide +kernel) (by decide +kernel)
theorem w_505 : Cond.selects "java/lang/IndexOutOfBoundsException" (⟨"java/lang/Throwable", "fillInStackTrace", "(I)Ljava/lang/Throwable;"⟩ : MethodName) (⟨"java/lang/Throwable", "fillInStackTrace", "(I)Ljava/lang/Throwable;"⟩ : MethodName) ∈ xG := xG_at 505 (by decide +kernel) (by decide +kernel)
theorem w_506 : Cond.lays "java/lang/IndexOutOfBoundsException" "java/lang/Throwable" "cause" "Ljava/lang/Throwable;" ∈ xG := xG_at 506 (by decide +kernel) (by decide +kernel)
theorem w_507 : Cond.lays "java/lang/IndexOutOfBoundsException" "java/lang/Throwable" "stackTrace" "[Ljava/lang/StackTraceElement;" ∈ xG := xG_at 507 (by decide +kernel) (by decide +kernel)
theorem w_508 : Cond.lays "java/lang/IndexOutOfBoundsException" "java/lang/Throwable" "suppressedExceptions" "Ljava/util/List;" ∈ xG := xG_at 508 (by decide +kernel) (by decide +kernel)
theorem w_509 : Cond.lays "java/lang/IndexOutOfBoundsException" "java/lang/Throwable" "detailMessage" "Ljava/lang/String;" ∈ xG := xG_at 509 (by decide +kernel) (by decide +kernel)
theorem w_510 : Cond.lays "java/lang/IndexOutOfBoundsException" "java/lang/Throwable" "backtrace" "Ljava/lang/Object;" ∈ xG := xG_at 510 (by decide +kernel) (by decide +kernel)
theorem w_511 : Cond.stringRef "LineCoder" 108 "no such bit" ∈ xG := xG_at 511 (by decide +kernel) (by decide +kernel)
theorem w_512 : Cond.methodLink "LineCoder" 110 (⟨"java/lang/IndexOutOfBoundsException", "<init>", "(Ljava/lang/String;)V"⟩ : MethodName) ∈ xG := xG_at 512 (by decide +kernel) (by decide +kernel)
theorem w_513 : Cond.instanceMethod (⟨"java/lang/IndexOutOfBoundsException", "<init>", "(Ljava/lang/String;)V"⟩ : MethodName) ∈ xG := xG_at 513 (by decide +kernel) (by decide +kernel)
theorem w_514 : Cond.code (⟨"java/lang/IndexOutOfBoundsException", "<init>", "(Ljava/lang/String;)V"⟩ : MethodName) prog_14_method_2_code 2 none ∈ xG := xG_at 514 (by decide +kernel) (by decide +kernel)
theorem w_515 : Cond.methodLink "java/lang/IndexOutOfBoundsException" 7 (⟨"java/lang/RuntimeException", "<init>", "(Ljava/lang/String;)V"⟩ : MethodName) ∈ xG := xG_at 515 (by decide +kernel) (by decide +kernel)
theorem w_516 : Cond.lays "java/lang/IndexOutOfBoundsException" "java/lang/Throwable" "depth" "I" ∈ xG := xG_at 516 (by decide +kernel) (by decide +kernel)
theorem w_517 : Cond.superclass "java/lang/IndexOutOfBoundsException" "java/lang/RuntimeException" ∈ xG := xG_at 517 (by decide +kernel) (by decide +kernel)
theorem w_518 : Cond.methodLink "LineCoder" 111 y_L_turn ∈ xG := xG_at 518 (by decide +kernel) (by decide +kernel)
theorem w_519 : Cond.instanceMethod y_L_turn ∈ xG := xG_at 519 (by decide +kernel) (by decide +kernel)
theorem w_520 : Cond.selects "LineCoder$Line" y_L_turn y_L_turn ∈ xG := xG_at 520 (by decide +kernel) (by decide +kernel)
theorem w_521 : Cond.code y_L_turn prog_2_method_9_code 2 none ∈ xG := xG_at 521 (by decide +kernel) (by decide +kernel)
theorem w_522 : Cond.methodLink "LineCoder" 114 y_L_at ∈ xG := xG_at 522 (by decide +kernel) (by decide +kernel)
theorem w_523 : Cond.methodLink "LineCoderLaw" 96 y_Q_lose ∈ xG := xG_at 523 (by decide +kernel) (by decide +kernel)
theorem w_524 : Cond.static y_Q_lose ∈ xG := xG_at 524 (by decide +kernel) (by decide +kernel)
theorem w_525 : Cond.codeWith y_Q_lose method_9_code 6 (Option.some FieldType.int) [(0, 12, 15, 13)] ∈ xG := xG_at 525 (by decide +kernel) (by decide +kernel)
theorem w_526 : Cond.methodLink "LineCoderLaw" 38 y_X_lose ∈ xG := xG_at 526 (by decide +kernel) (by decide +kernel)
theorem w_527 : Cond.instanceMethod y_X_lose ∈ xG := xG_at 527 (by decide +kernel) (by decide +kernel)
theorem w_528 : Cond.selects "LineCoder" y_X_lose y_X_lose ∈ xG := xG_at 528 (by decide +kernel) (by decide +kernel)
theorem w_529 : Cond.code y_X_lose prog_1_method_11_code 5 (Option.some FieldType.int) ∈ xG := xG_at 529 (by decide +kernel) (by decide +kernel)
theorem w_530 : Cond.stringRef "LineCoder" 117 "fewer than no bits" ∈ xG := xG_at 530 (by decide +kernel) (by decide +kernel)
theorem w_531 : Cond.methodLink "LineCoder" 119 y_L_place ∈ xG := xG_at 531 (by decide +kernel) (by decide +kernel)
theorem w_532 : Cond.instanceMethod y_L_place ∈ xG := xG_at 532 (by decide +kernel) (by decide +kernel)
theorem w_533 : Cond.selects "LineCoder$Line" y_L_place y_L_place ∈ xG := xG_at 533 (by decide +kernel) (by decide +kernel)
theorem w_534 : Cond.code y_L_place prog_2_method_4_code 1 (Option.some FieldType.int) ∈ xG := xG_at 534 (by decide +kernel) (by decide +kernel)
theorem w_535 : Cond.stringRef "LineCoder" 122 "before the receiver's place" ∈ xG := xG_at 535 (by decide +kernel) (by decide +kernel)
theorem w_536 : Cond.methodLink "LineCoder" 124 y_L_remove ∈ xG := xG_at 536 (by decide +kernel) (by decide +kernel)
theorem w_537 : Cond.instanceMethod y_L_remove ∈ xG := xG_at 537 (by decide +kernel) (by decide +kernel)
theorem w_538 : Cond.selects "LineCoder$Line" y_L_remove y_L_remove ∈ xG := xG_at 538 (by decide +kernel) (by decide +kernel)
theorem w_539 : Cond.code y_L_remove prog_2_method_11_code 5 (Option.some FieldType.int) ∈ xG := xG_at 539 (by decide +kernel) (by decide +kernel)
theorem w_540 : Cond.methodLink "LineCoder$Line" 32 (⟨"java/lang/System", "arraycopy", "(Ljava/lang/Object;ILjava/lang/Object;II)V"⟩ : MethodName) ∈ xG := xG_at 540 (by decide +kernel) (by decide +kernel)
theorem w_541 : Cond.static (⟨"java/lang/System", "arraycopy", "(Ljava/lang/Object;ILjava/lang/Object;II)V"⟩ : MethodName) ∈ xG := xG_at 541 (by decide +kernel) (by decide +kernel)
theorem w_542 : Cond.native (⟨"java/lang/System", "arraycopy", "(Ljava/lang/Object;ILjava/lang/Object;II)V"⟩ : MethodName) ∈ xG := xG_at 542 (by decide +kernel) (by decide +kernel)
theorem w_543 : Cond.methodLink "LineCoderLaw" 99 y_Q_bit ∈ xG := xG_at 543 (by decide +kernel) (by decide +kernel)
theorem w_544 : Cond.static y_Q_bit ∈ xG := xG_at 544 (by decide +kernel) (by decide +kernel)
theorem w_545 : Cond.codeWith y_Q_bit method_10_code 5 (Option.some FieldType.int) [(0, 10, 13, 13)] ∈ xG := xG_at 545 (by decide +kernel) (by decide +kernel)
theorem w_546 : Cond.methodLink "LineCoderLaw" 41 y_X_bit ∈ xG := xG_at 546 (by decide +kernel) (by decide +kernel)
theorem w_547 : Cond.instanceMethod y_X_bit ∈ xG := xG_at 547 (by decide +kernel) (by decide +kernel)
theorem w_548 : Cond.selects "LineCoder" y_X_bit y_X_bit ∈ xG := xG_at 548 (by decide +kernel) (by decide +kernel)
theorem w_549 : Cond.code y_X_bit prog_1_method_12_code 3 (Option.some FieldType.int) ∈ xG := xG_at 549 (by decide +kernel) (by decide +kernel)
theorem w_550 : Cond.methodLink "LineCoderLaw" 102 y_Q_count ∈ xG := xG_at 550 (by decide +kernel) (by decide +kernel)
theorem w_551 : Cond.static y_Q_count ∈ xG := xG_at 551 (by decide +kernel) (by decide +kernel)
theorem w_552 : Cond.codeWith y_Q_count method_11_code 5 (Option.some FieldType.int) [(0, 10, 13, 13)] ∈ xG := xG_at 552 (by decide +kernel) (by decide +kernel)
theorem w_553 : Cond.methodLink "LineCoderLaw" 45 y_X_count ∈ xG := xG_at 553 (by decide +kernel) (by decide +kernel)
theorem w_554 : Cond.instanceMethod y_X_count ∈ xG := xG_at 554 (by decide +kernel) (by decide +kernel)
theorem w_555 : Cond.selects "LineCoder" y_X_count y_X_count ∈ xG := xG_at 555 (by decide +kernel) (by decide +kernel)
theorem w_556 : Cond.code y_X_count prog_1_method_13_code 5 (Option.some FieldType.int) ∈ xG := xG_at 556 (by decide +kernel) (by decide +kernel)
theorem w_557 : Cond.methodLink "LineCoder" 128 y_R_isFollowing ∈ xG := xG_at 557 (by decide +kernel) (by decide +kernel)
theorem w_558 : Cond.instanceMethod y_R_isFollowing ∈ xG := xG_at 558 (by decide +kernel) (by decide +kernel)
theorem w_559 : Cond.sameMethod "LineCoder$Receiver" "LineCoder$Receiver" "isFollowing" "()Z" ∈ xG := xG_at 559 (by decide +kernel) (by decide +kernel)
theorem w_560 : Cond.selects "LineCoder$TenReceiver" y_R_isFollowing y_R_isFollowing ∈ xG := xG_at 560 (by decide +kernel) (by decide +kernel)
theorem w_561 : Cond.selects "LineCoder$WordReceiver" y_R_isFollowing y_R_isFollowing ∈ xG := xG_at 561 (by decide +kernel) (by decide +kernel)
theorem w_562 : Cond.code y_R_isFollowing prog_3_method_3_code 1 (Option.some FieldType.boolean) ∈ xG := xG_at 562 (by decide +kernel) (by decide +kernel)
theorem w_563 : Cond.methodLink "LineCoder" 134 (⟨"LineCoder$Receiver", "marks", "()I"⟩ : MethodName) ∈ xG := xG_at 563 (by decide +kernel) (by decide +kernel)
theorem w_564 : Cond.declares (⟨"LineCoder$Receiver", "marks", "()I"⟩ : MethodName) ∈ xG := xG_at 564 (by decide +kernel) (by decide +kernel)
theorem w_565 : Cond.sameMethod "LineCoder$Receiver" "LineCoder$Receiver" "marks" "()I" ∈ xG := xG_at 565 (by decide +kernel) (by decide +kernel)
theorem w_566 : Cond.selects "LineCoder$TenReceiver" (⟨"LineCoder$Receiver", "marks", "()I"⟩ : MethodName) y_T_marks ∈ xG := xG_at 566 (by decide +kernel) (by decide +kernel)
theorem w_567 : Cond.instanceMethod y_T_marks ∈ xG := xG_at 567 (by decide +kernel) (by decide +kernel)
theorem w_568 : Cond.code y_T_marks prog_6_method_4_code 1 (Option.some FieldType.int) ∈ xG := xG_at 568 (by decide +kernel) (by decide +kernel)
theorem w_569 : Cond.selects "LineCoder$WordReceiver" (⟨"LineCoder$Receiver", "marks", "()I"⟩ : MethodName) y_W_marks ∈ xG := xG_at 569 (by decide +kernel) (by decide +kernel)
theorem w_570 : Cond.instanceMethod y_W_marks ∈ xG := xG_at 570 (by decide +kernel) (by decide +kernel)
theorem w_571 : Cond.code y_W_marks prog_8_method_4_code 1 (Option.some FieldType.int) ∈ xG := xG_at 571 (by decide +kernel) (by decide +kernel)
theorem w_572 : Cond.methodLink "LineCoder" 137 y_R_slips ∈ xG := xG_at 572 (by decide +kernel) (by decide +kernel)
theorem w_573 : Cond.instanceMethod y_R_slips ∈ xG := xG_at 573 (by decide +kernel) (by decide +kernel)
theorem w_574 : Cond.sameMethod "LineCoder$Receiver" "LineCoder$Receiver" "slips" "()I" ∈ xG := xG_at 574 (by decide +kernel) (by decide +kernel)
theorem w_575 : Cond.selects "LineCoder$TenReceiver" y_R_slips y_R_slips ∈ xG := xG_at 575 (by decide +kernel) (by decide +kernel)
theorem w_576 : Cond.selects "LineCoder$WordReceiver" y_R_slips y_R_slips ∈ xG := xG_at 576 (by decide +kernel) (by decide +kernel)
theorem w_577 : Cond.code y_R_slips prog_3_method_4_code 1 (Option.some FieldType.int) ∈ xG := xG_at 577 (by decide +kernel) (by decide +kernel)
theorem w_578 : Cond.methodLink "LineCoder" 140 y_R_bads ∈ xG := xG_at 578 (by decide +kernel) (by decide +kernel)
theorem w_579 : Cond.instanceMethod y_R_bads ∈ xG := xG_at 579 (by decide +kernel) (by decide +kernel)
theorem w_580 : Cond.sameMethod "LineCoder$Receiver" "LineCoder$Receiver" "bads" "()I" ∈ xG := xG_at 580 (by decide +kernel) (by decide +kernel)
theorem w_581 : Cond.selects "LineCoder$TenReceiver" y_R_bads y_R_bads ∈ xG := xG_at 581 (by decide +kernel) (by decide +kernel)
theorem w_582 : Cond.selects "LineCoder$WordReceiver" y_R_bads y_R_bads ∈ xG := xG_at 582 (by decide +kernel) (by decide +kernel)
theorem w_583 : Cond.code y_R_bads prog_3_method_5_code 1 (Option.some FieldType.int) ∈ xG := xG_at 583 (by decide +kernel) (by decide +kernel)
theorem w_584 : Cond.methodLink "LineCoder" 143 y_R_wrongs ∈ xG := xG_at 584 (by decide +kernel) (by decide +kernel)
theorem w_585 : Cond.instanceMethod y_R_wrongs ∈ xG := xG_at 585 (by decide +kernel) (by decide +kernel)
theorem w_586 : Cond.sameMethod "LineCoder$Receiver" "LineCoder$Receiver" "wrongs" "()I" ∈ xG := xG_at 586 (by decide +kernel) (by decide +kernel)
theorem w_587 : Cond.selects "LineCoder$TenReceiver" y_R_wrongs y_R_wrongs ∈ xG := xG_at 587 (by decide +kernel) (by decide +kernel)
theorem w_588 : Cond.selects "LineCoder$WordReceiver" y_R_wrongs y_R_wrongs ∈ xG := xG_at 588 (by decide +kernel) (by decide +kernel)
theorem w_589 : Cond.code y_R_wrongs prog_3_method_6_code 1 (Option.some FieldType.int) ∈ xG := xG_at 589 (by decide +kernel) (by decide +kernel)
theorem w_590 : Cond.methodLink "LineCoder" 146 y_L_onesLessZeros ∈ xG := xG_at 590 (by decide +kernel) (by decide +kernel)
theorem w_591 : Cond.instanceMethod y_L_onesLessZeros ∈ xG := xG_at 591 (by decide +kernel) (by decide +kernel)
theorem w_592 : Cond.selects "LineCoder$Line" y_L_onesLessZeros y_L_onesLessZeros ∈ xG := xG_at 592 (by decide +kernel) (by decide +kernel)
theorem w_593 : Cond.code y_L_onesLessZeros prog_2_method_14_code 3 (Option.some FieldType.int) ∈ xG := xG_at 593 (by decide +kernel) (by decide +kernel)
theorem w_594 : Cond.methodLink "LineCoder" 149 y_L_longestRun ∈ xG := xG_at 594 (by decide +kernel) (by decide +kernel)
theorem w_595 : Cond.instanceMethod y_L_longestRun ∈ xG := xG_at 595 (by decide +kernel) (by decide +kernel)
theorem w_596 : Cond.selects "LineCoder$Line" y_L_longestRun y_L_longestRun ∈ xG := xG_at 596 (by decide +kernel) (by decide +kernel)
theorem w_597 : Cond.code y_L_longestRun prog_2_method_15_code 4 (Option.some FieldType.int) ∈ xG := xG_at 597 (by decide +kernel) (by decide +kernel)
theorem w_598 : Cond.methodLink "LineCoder$Line" 46 y_JM_max ∈ xG := xG_at 598 (by decide +kernel) (by decide +kernel)
theorem w_599 : Cond.stringRef "LineCoder" 152 "nothing that is counted" ∈ xG := xG_at 599 (by decide +kernel) (by decide +kernel)
theorem w_600 : Cond.classLink "LineCoderLaw" 49 "LineCoderModel" ∈ xG := xG_at 600 (by decide +kernel) (by decide +kernel)
theorem w_601 : Cond.instantiable "LineCoderModel" 23 ∈ xG := xG_at 601 (by decide +kernel) (by decide +kernel)
theorem w_602 : Cond.methodLink "LineCoderLaw" 51 y_M_init ∈ xG := xG_at 602 (by decide +kernel) (by decide +kernel)
theorem w_603 : Cond.instanceMethod y_M_init ∈ xG := xG_at 603 (by decide +kernel) (by decide +kernel)
theorem w_604 : Cond.code y_M_init prog_10_method_1_code 3 none ∈ xG := xG_at 604 (by decide +kernel) (by decide +kernel)
theorem w_605 : Cond.methodLink "LineCoderModel" 1 (⟨"java/lang/Object", "<init>", "()V"⟩ : MethodName) ∈ xG := xG_at 605 (by decide +kernel) (by decide +kernel)
theorem w_606 : Cond.methodLink "LineCoderModel" 50 y_M_isSymbol ∈ xG := xG_at 606 (by decide +kernel) (by decide +kernel)
theorem w_607 : Cond.static y_M_isSymbol ∈ xG := xG_at 607 (by decide +kernel) (by decide +kernel)
theorem w_608 : Cond.code y_M_isSymbol prog_10_method_7_code 3 (Option.some FieldType.boolean) ∈ xG := xG_at 608 (by decide +kernel) (by decide +kernel)
theorem w_609 : Cond.methodLink "LineCoderModel" 54 y_M_make ∈ xG := xG_at 609 (by decide +kernel) (by decide +kernel)
theorem w_611 : Cond.instanceMethod y_M_make ∈ xG := xG_at 611 (by decide +kernel) (by decide +kernel)
theorem w_612 : Cond.code y_M_make prog_10_method_11_code 11 (Option.some FieldType.int) ∈ xG := xG_at 612 (by decide +kernel) (by decide +kernel)
theorem w_613 : Cond.methodLink "LineCoderModel" 91 y_M_ones ∈ xG := xG_at 613 (by decide +kernel) (by decide +kernel)
theorem w_614 : Cond.static y_M_ones ∈ xG := xG_at 614 (by decide +kernel) (by decide +kernel)
theorem w_615 : Cond.code y_M_ones prog_10_method_8_code 3 (Option.some FieldType.int) ∈ xG := xG_at 615 (by decide +kernel) (by decide +kernel)
theorem w_616 : Cond.methodLink "LineCoderModel" 95 y_M_behindSix ∈ xG := xG_at 616 (by decide +kernel) (by decide +kernel)
theorem w_617 : Cond.static y_M_behindSix ∈ xG := xG_at 617 (by decide +kernel) (by decide +kernel)
theorem w_618 : Cond.code y_M_behindSix prog_10_method_9_code 3 (Option.some FieldType.boolean) ∈ xG := xG_at 618 (by decide +kernel) (by decide +kernel)
theorem w_619 : Cond.methodLink "LineCoderModel" 58 y_M_empty ∈ xG := xG_at 619 (by decide +kernel) (by decide +kernel)
theorem w_621 : Cond.instanceMethod y_M_empty ∈ xG := xG_at 621 (by decide +kernel) (by decide +kernel)
theorem w_622 : Cond.code y_M_empty prog_10_method_5_code 2 none ∈ xG := xG_at 622 (by decide +kernel) (by decide +kernel)
theorem w_623 : Cond.fieldLink "LineCoderModel" 61 "LineCoderModel" "refusal" "I" ∈ xG := xG_at 623 (by decide +kernel) (by decide +kernel)
theorem w_624 : Cond.fieldLink "LineCoderModel" 7 "LineCoderModel" "sixes" "[I" ∈ xG := xG_at 624 (by decide +kernel) (by decide +kernel)
theorem w_625 : Cond.fieldLink "LineCoderModel" 13 "LineCoderModel" "fours" "[I" ∈ xG := xG_at 625 (by decide +kernel) (by decide +kernel)
theorem w_626 : Cond.fieldLink "LineCoderModel" 16 "LineCoderModel" "codes" "[I" ∈ xG := xG_at 626 (by decide +kernel) (by decide +kernel)
theorem w_627 : Cond.fieldLink "LineCoderModel" 19 "LineCoderModel" "symbolOf" "[I" ∈ xG := xG_at 627 (by decide +kernel) (by decide +kernel)
theorem w_628 : Cond.fieldLink "LineCoderModel" 22 "LineCoderModel" "bits" "[I" ∈ xG := xG_at 628 (by decide +kernel) (by decide +kernel)
theorem w_629 : Cond.fieldLink "LineCoderModel" 25 "LineCoderModel" "size" "[I" ∈ xG := xG_at 629 (by decide +kernel) (by decide +kernel)
theorem w_630 : Cond.fieldLink "LineCoderModel" 28 "LineCoderModel" "place" "[I" ∈ xG := xG_at 630 (by decide +kernel) (by decide +kernel)
theorem w_631 : Cond.fieldLink "LineCoderModel" 31 "LineCoderModel" "follows" "[Z" ∈ xG := xG_at 631 (by decide +kernel) (by decide +kernel)
theorem w_632 : Cond.fieldLink "LineCoderModel" 35 "LineCoderModel" "marks" "[I" ∈ xG := xG_at 632 (by decide +kernel) (by decide +kernel)
theorem w_633 : Cond.fieldLink "LineCoderModel" 38 "LineCoderModel" "slips" "[I" ∈ xG := xG_at 633 (by decide +kernel) (by decide +kernel)
theorem w_634 : Cond.fieldLink "LineCoderModel" 41 "LineCoderModel" "bads" "[I" ∈ xG := xG_at 634 (by decide +kernel) (by decide +kernel)
theorem w_635 : Cond.fieldLink "LineCoderModel" 65 "LineCoderModel" "wrongs" "I" ∈ xG := xG_at 635 (by decide +kernel) (by decide +kernel)
theorem w_636 : Cond.fieldLink "LineCoderModel" 68 "LineCoderModel" "senderPlus" "Z" ∈ xG := xG_at 636 (by decide +kernel) (by decide +kernel)
theorem w_637 : Cond.fieldLink "LineCoderModel" 72 "LineCoderModel" "receiverPlus" "Z" ∈ xG := xG_at 637 (by decide +kernel) (by decide +kernel)
theorem w_638 : Cond.fieldLink "LineCoderModel" 75 "LineCoderModel" "isFirst" "Z" ∈ xG := xG_at 638 (by decide +kernel) (by decide +kernel)
theorem w_639 : Cond.fieldLink "LineCoderModel" 78 "LineCoderModel" "good" "I" ∈ xG := xG_at 639 (by decide +kernel) (by decide +kernel)
theorem w_640 : Cond.fieldLink "LineCoderModel" 44 "LineCoderModel" "sentBits" "[I" ∈ xG := xG_at 640 (by decide +kernel) (by decide +kernel)
theorem w_641 : Cond.fieldLink "LineCoderModel" 47 "LineCoderModel" "gotBits" "[I" ∈ xG := xG_at 641 (by decide +kernel) (by decide +kernel)
theorem w_642 : Cond.fieldLink "LineCoderModel" 81 "LineCoderModel" "lately" "I" ∈ xG := xG_at 642 (by decide +kernel) (by decide +kernel)
theorem w_643 : Cond.fieldLink "LineCoderModel" 84 "LineCoderModel" "since" "I" ∈ xG := xG_at 643 (by decide +kernel) (by decide +kernel)
theorem w_644 : Cond.fieldLink "LineCoderModel" 87 "LineCoderModel" "last" "J" ∈ xG := xG_at 644 (by decide +kernel) (by decide +kernel)
theorem w_645 : Cond.lays "LineCoderModel" "LineCoderModel" "refusal" "I" ∈ xG := xG_at 645 (by decide +kernel) (by decide +kernel)
theorem w_646 : Cond.soleField "LineCoderModel" "refusal" ∈ xG := xG_at 646 (by decide +kernel) (by decide +kernel)
theorem w_647 : Cond.laysFinal "LineCoderModel" "LineCoderModel" "sixes" "[I" ∈ xG := xG_at 647 (by decide +kernel) (by decide +kernel)
theorem w_648 : Cond.soleField "LineCoderModel" "sixes" ∈ xG := xG_at 648 (by decide +kernel) (by decide +kernel)
theorem w_649 : Cond.laysFinal "LineCoderModel" "LineCoderModel" "fours" "[I" ∈ xG := xG_at 649 (by decide +kernel) (by decide +kernel)
theorem w_650 : Cond.soleField "LineCoderModel" "fours" ∈ xG := xG_at 650 (by decide +kernel) (by decide +kernel)
theorem w_651 : Cond.laysFinal "LineCoderModel" "LineCoderModel" "codes" "[I" ∈ xG := xG_at 651 (by decide +kernel) (by decide +kernel)
theorem w_652 : Cond.soleField "LineCoderModel" "codes" ∈ xG := xG_at 652 (by decide +kernel) (by decide +kernel)
theorem w_653 : Cond.laysFinal "LineCoderModel" "LineCoderModel" "symbolOf" "[I" ∈ xG := xG_at 653 (by decide +kernel) (by decide +kernel)
theorem w_654 : Cond.soleField "LineCoderModel" "symbolOf" ∈ xG := xG_at 654 (by decide +kernel) (by decide +kernel)
theorem w_655 : Cond.laysFinal "LineCoderModel" "LineCoderModel" "bits" "[I" ∈ xG := xG_at 655 (by decide +kernel) (by decide +kernel)
theorem w_656 : Cond.soleField "LineCoderModel" "bits" ∈ xG := xG_at 656 (by decide +kernel) (by decide +kernel)
theorem w_657 : Cond.laysFinal "LineCoderModel" "LineCoderModel" "size" "[I" ∈ xG := xG_at 657 (by decide +kernel) (by decide +kernel)
theorem w_658 : Cond.soleField "LineCoderModel" "size" ∈ xG := xG_at 658 (by decide +kernel) (by decide +kernel)
theorem w_659 : Cond.laysFinal "LineCoderModel" "LineCoderModel" "place" "[I" ∈ xG := xG_at 659 (by decide +kernel) (by decide +kernel)
theorem w_660 : Cond.soleField "LineCoderModel" "place" ∈ xG := xG_at 660 (by decide +kernel) (by decide +kernel)
theorem w_661 : Cond.laysFinal "LineCoderModel" "LineCoderModel" "follows" "[Z" ∈ xG := xG_at 661 (by decide +kernel) (by decide +kernel)
theorem w_662 : Cond.soleField "LineCoderModel" "follows" ∈ xG := xG_at 662 (by decide +kernel) (by decide +kernel)
theorem w_663 : Cond.laysFinal "LineCoderModel" "LineCoderModel" "marks" "[I" ∈ xG := xG_at 663 (by decide +kernel) (by decide +kernel)
theorem w_664 : Cond.soleField "LineCoderModel" "marks" ∈ xG := xG_at 664 (by decide +kernel) (by decide +kernel)
theorem w_665 : Cond.laysFinal "LineCoderModel" "LineCoderModel" "slips" "[I" ∈ xG := xG_at 665 (by decide +kernel) (by decide +kernel)
theorem w_666 : Cond.soleField "LineCoderModel" "slips" ∈ xG := xG_at 666 (by decide +kernel) (by decide +kernel)
theorem w_667 : Cond.laysFinal "LineCoderModel" "LineCoderModel" "bads" "[I" ∈ xG := xG_at 667 (by decide +kernel) (by decide +kernel)
theorem w_668 : Cond.soleField "LineCoderModel" "bads" ∈ xG := xG_at 668 (by decide +kernel) (by decide +kernel)
theorem w_669 : Cond.lays "LineCoderModel" "LineCoderModel" "wrongs" "I" ∈ xG := xG_at 669 (by decide +kernel) (by decide +kernel)
theorem w_670 : Cond.soleField "LineCoderModel" "wrongs" ∈ xG := xG_at 670 (by decide +kernel) (by decide +kernel)
theorem w_671 : Cond.lays "LineCoderModel" "LineCoderModel" "senderPlus" "Z" ∈ xG := xG_at 671 (by decide +kernel) (by decide +kernel)
theorem w_672 : Cond.soleField "LineCoderModel" "senderPlus" ∈ xG := xG_at 672 (by decide +kernel) (by decide +kernel)
theorem w_673 : Cond.lays "LineCoderModel" "LineCoderModel" "receiverPlus" "Z" ∈ xG := xG_at 673 (by decide +kernel) (by decide +kernel)
theorem w_674 : Cond.soleField "LineCoderModel" "receiverPlus" ∈ xG := xG_at 674 (by decide +kernel) (by decide +kernel)
theorem w_675 : Cond.lays "LineCoderModel" "LineCoderModel" "isFirst" "Z" ∈ xG := xG_at 675 (by decide +kernel) (by decide +kernel)
theorem w_676 : Cond.soleField "LineCoderModel" "isFirst" ∈ xG := xG_at 676 (by decide +kernel) (by decide +kernel)
theorem w_677 : Cond.lays "LineCoderModel" "LineCoderModel" "good" "I" ∈ xG := xG_at 677 (by decide +kernel) (by decide +kernel)
theorem w_678 : Cond.soleField "LineCoderModel" "good" ∈ xG := xG_at 678 (by decide +kernel) (by decide +kernel)
theorem w_679 : Cond.laysFinal "LineCoderModel" "LineCoderModel" "sentBits" "[I" ∈ xG := xG_at 679 (by decide +kernel) (by decide +kernel)
theorem w_680 : Cond.soleField "LineCoderModel" "sentBits" ∈ xG := xG_at 680 (by decide +kernel) (by decide +kernel)
theorem w_681 : Cond.laysFinal "LineCoderModel" "LineCoderModel" "gotBits" "[I" ∈ xG := xG_at 681 (by decide +kernel) (by decide +kernel)
theorem w_682 : Cond.soleField "LineCoderModel" "gotBits" ∈ xG := xG_at 682 (by decide +kernel) (by decide +kernel)
theorem w_683 : Cond.lays "LineCoderModel" "LineCoderModel" "lately" "I" ∈ xG := xG_at 683 (by decide +kernel) (by decide +kernel)
theorem w_684 : Cond.soleField "LineCoderModel" "lately" ∈ xG := xG_at 684 (by decide +kernel) (by decide +kernel)
theorem w_685 : Cond.lays "LineCoderModel" "LineCoderModel" "since" "I" ∈ xG := xG_at 685 (by decide +kernel) (by decide +kernel)
theorem w_686 : Cond.soleField "LineCoderModel" "since" ∈ xG := xG_at 686 (by decide +kernel) (by decide +kernel)
theorem w_687 : Cond.lays "LineCoderModel" "LineCoderModel" "last" "J" ∈ xG := xG_at 687 (by decide +kernel) (by decide +kernel)
theorem w_688 : Cond.soleField "LineCoderModel" "last" ∈ xG := xG_at 688 (by decide +kernel) (by decide +kernel)
theorem w_689 : Cond.lays "LineCoderModel" "LineCoderModel" "running" "Z" ∈ xG := xG_at 689 (by decide +kernel) (by decide +kernel)
theorem w_690 : Cond.soleField "LineCoderModel" "running" ∈ xG := xG_at 690 (by decide +kernel) (by decide +kernel)
theorem w_691 : Cond.superclass "LineCoderModel" "java/lang/Object" ∈ xG := xG_at 691 (by decide +kernel) (by decide +kernel)
theorem w_692 : Cond.arrayClass FieldType.int ∈ xG := xG_at 692 (by decide +kernel) (by decide +kernel)
theorem w_693 : Cond.arrayClass FieldType.boolean ∈ xG := xG_at 693 (by decide +kernel) (by decide +kernel)
theorem w_694 : Cond.methodLink "LineCoderLaw" 58 y_M_thrown ∈ xG := xG_at 694 (by decide +kernel) (by decide +kernel)
theorem w_695 : Cond.instanceMethod y_M_thrown ∈ xG := xG_at 695 (by decide +kernel) (by decide +kernel)
theorem w_696 : Cond.selects "LineCoderModel" y_M_thrown y_M_thrown ∈ xG := xG_at 696 (by decide +kernel) (by decide +kernel)
theorem w_697 : Cond.code y_M_thrown prog_10_method_2_code 1 (Option.some FieldType.int) ∈ xG := xG_at 697 (by decide +kernel) (by decide +kernel)
theorem w_698 : Cond.methodLink "LineCoderLaw" 113 y_M_clear ∈ xG := xG_at 698 (by decide +kernel) (by decide +kernel)
theorem w_699 : Cond.instanceMethod y_M_clear ∈ xG := xG_at 699 (by decide +kernel) (by decide +kernel)
theorem w_700 : Cond.selects "LineCoderModel" y_M_clear y_M_clear ∈ xG := xG_at 700 (by decide +kernel) (by decide +kernel)
theorem w_701 : Cond.code y_M_clear prog_10_method_6_code 1 none ∈ xG := xG_at 701 (by decide +kernel) (by decide +kernel)
theorem w_702 : Cond.methodLink "LineCoderLaw" 57 y_M_code ∈ xG := xG_at 702 (by decide +kernel) (by decide +kernel)
theorem w_703 : Cond.instanceMethod y_M_code ∈ xG := xG_at 703 (by decide +kernel) (by decide +kernel)
theorem w_704 : Cond.selects "LineCoderModel" y_M_code y_M_code ∈ xG := xG_at 704 (by decide +kernel) (by decide +kernel)
theorem w_705 : Cond.code y_M_code prog_10_method_13_code 3 (Option.some FieldType.int) ∈ xG := xG_at 705 (by decide +kernel) (by decide +kernel)
theorem w_706 : Cond.methodLink "LineCoderModel" 102 y_M_refused ∈ xG := xG_at 706 (by decide +kernel) (by decide +kernel)
theorem w_708 : Cond.instanceMethod y_M_refused ∈ xG := xG_at 708 (by decide +kernel) (by decide +kernel)
theorem w_709 : Cond.code y_M_refused prog_10_method_3_code 2 (Option.some FieldType.boolean) ∈ xG := xG_at 709 (by decide +kernel) (by decide +kernel)
theorem w_710 : Cond.methodLink "LineCoderLaw" 65 y_M_symbol ∈ xG := xG_at 710 (by decide +kernel) (by decide +kernel)
theorem w_711 : Cond.instanceMethod y_M_symbol ∈ xG := xG_at 711 (by decide +kernel) (by decide +kernel)
theorem w_712 : Cond.selects "LineCoderModel" y_M_symbol y_M_symbol ∈ xG := xG_at 712 (by decide +kernel) (by decide +kernel)
theorem w_713 : Cond.code y_M_symbol prog_10_method_14_code 2 (Option.some FieldType.int) ∈ xG := xG_at 713 (by decide +kernel) (by decide +kernel)
theorem w_714 : Cond.methodLink "LineCoderModel" 105 y_M_isIn ∈ xG := xG_at 714 (by decide +kernel) (by decide +kernel)
theorem w_715 : Cond.static y_M_isIn ∈ xG := xG_at 715 (by decide +kernel) (by decide +kernel)
theorem w_716 : Cond.code y_M_isIn prog_10_method_4_code 3 (Option.some FieldType.boolean) ∈ xG := xG_at 716 (by decide +kernel) (by decide +kernel)
theorem w_717 : Cond.methodLink "LineCoderLaw" 68 y_M_send ∈ xG := xG_at 717 (by decide +kernel) (by decide +kernel)
theorem w_718 : Cond.instanceMethod y_M_send ∈ xG := xG_at 718 (by decide +kernel) (by decide +kernel)
theorem w_719 : Cond.selects "LineCoderModel" y_M_send y_M_send ∈ xG := xG_at 719 (by decide +kernel) (by decide +kernel)
theorem w_720 : Cond.code y_M_send prog_10_method_16_code 4 (Option.some FieldType.int) ∈ xG := xG_at 720 (by decide +kernel) (by decide +kernel)
theorem w_721 : Cond.methodLink "LineCoderModel" 109 y_M_append ∈ xG := xG_at 721 (by decide +kernel) (by decide +kernel)
theorem w_723 : Cond.instanceMethod y_M_append ∈ xG := xG_at 723 (by decide +kernel) (by decide +kernel)
theorem w_724 : Cond.code y_M_append prog_10_method_15_code 3 none ∈ xG := xG_at 724 (by decide +kernel) (by decide +kernel)
theorem w_725 : Cond.methodLink "LineCoderModel" 113 y_M_behind ∈ xG := xG_at 725 (by decide +kernel) (by decide +kernel)
theorem w_726 : Cond.static y_M_behind ∈ xG := xG_at 726 (by decide +kernel) (by decide +kernel)
theorem w_727 : Cond.code y_M_behind prog_10_method_12_code 2 (Option.some FieldType.boolean) ∈ xG := xG_at 727 (by decide +kernel) (by decide +kernel)
theorem w_728 : Cond.methodLink "LineCoderModel" 99 y_M_behindFour ∈ xG := xG_at 728 (by decide +kernel) (by decide +kernel)
theorem w_729 : Cond.static y_M_behindFour ∈ xG := xG_at 729 (by decide +kernel) (by decide +kernel)
theorem w_730 : Cond.code y_M_behindFour prog_10_method_10_code 3 (Option.some FieldType.boolean) ∈ xG := xG_at 730 (by decide +kernel) (by decide +kernel)
theorem w_731 : Cond.methodLink "LineCoderLaw" 72 y_M_receive ∈ xG := xG_at 731 (by decide +kernel) (by decide +kernel)
theorem w_732 : Cond.instanceMethod y_M_receive ∈ xG := xG_at 732 (by decide +kernel) (by decide +kernel)
theorem w_733 : Cond.selects "LineCoderModel" y_M_receive y_M_receive ∈ xG := xG_at 733 (by decide +kernel) (by decide +kernel)
theorem w_734 : Cond.code y_M_receive prog_10_method_18_code 2 (Option.some FieldType.int) ∈ xG := xG_at 734 (by decide +kernel) (by decide +kernel)
theorem w_735 : Cond.methodLink "LineCoderModel" 116 y_M_bitsAt ∈ xG := xG_at 735 (by decide +kernel) (by decide +kernel)
theorem w_737 : Cond.instanceMethod y_M_bitsAt ∈ xG := xG_at 737 (by decide +kernel) (by decide +kernel)
theorem w_738 : Cond.code y_M_bitsAt prog_10_method_17_code 5 (Option.some FieldType.int) ∈ xG := xG_at 738 (by decide +kernel) (by decide +kernel)
theorem w_739 : Cond.methodLink "LineCoderModel" 120 y_M_taken ∈ xG := xG_at 739 (by decide +kernel) (by decide +kernel)
theorem w_741 : Cond.instanceMethod y_M_taken ∈ xG := xG_at 741 (by decide +kernel) (by decide +kernel)
theorem w_742 : Cond.code y_M_taken prog_10_method_19_code 5 (Option.some FieldType.int) ∈ xG := xG_at 742 (by decide +kernel) (by decide +kernel)
theorem w_743 : Cond.methodLink "LineCoderLaw" 78 y_M_put ∈ xG := xG_at 743 (by decide +kernel) (by decide +kernel)
theorem w_744 : Cond.instanceMethod y_M_put ∈ xG := xG_at 744 (by decide +kernel) (by decide +kernel)
theorem w_745 : Cond.selects "LineCoderModel" y_M_put y_M_put ∈ xG := xG_at 745 (by decide +kernel) (by decide +kernel)
theorem w_746 : Cond.code y_M_put prog_10_method_21_code 6 (Option.some FieldType.int) ∈ xG := xG_at 746 (by decide +kernel) (by decide +kernel)
theorem w_747 : Cond.methodLink "LineCoderModel" 123 y_M_remember ∈ xG := xG_at 747 (by decide +kernel) (by decide +kernel)
theorem w_748 : Cond.static y_M_remember ∈ xG := xG_at 748 (by decide +kernel) (by decide +kernel)
theorem w_749 : Cond.code y_M_remember prog_10_method_20_code 3 none ∈ xG := xG_at 749 (by decide +kernel) (by decide +kernel)
theorem w_750 : Cond.methodLink "LineCoderLaw" 82 y_M_take ∈ xG := xG_at 750 (by decide +kernel) (by decide +kernel)
theorem w_751 : Cond.instanceMethod y_M_take ∈ xG := xG_at 751 (by decide +kernel) (by decide +kernel)
theorem w_752 : Cond.selects "LineCoderModel" y_M_take y_M_take ∈ xG := xG_at 752 (by decide +kernel) (by decide +kernel)
theorem w_753 : Cond.code y_M_take prog_10_method_24_code 4 (Option.some FieldType.int) ∈ xG := xG_at 753 (by decide +kernel) (by decide +kernel)
theorem w_754 : Cond.methodLink "LineCoderModel" 127 y_M_takeWord ∈ xG := xG_at 754 (by decide +kernel) (by decide +kernel)
theorem w_756 : Cond.instanceMethod y_M_takeWord ∈ xG := xG_at 756 (by decide +kernel) (by decide +kernel)
theorem w_757 : Cond.code y_M_takeWord prog_10_method_22_code 4 none ∈ xG := xG_at 757 (by decide +kernel) (by decide +kernel)
theorem w_758 : Cond.constant "LineCoderModel" 131 (65535 : Int32) ∈ xG := xG_at 758 (by decide +kernel) (by decide +kernel)
theorem w_759 : Cond.methodLink "LineCoderModel" 132 y_M_onesOf ∈ xG := xG_at 759 (by decide +kernel) (by decide +kernel)
theorem w_760 : Cond.static y_M_onesOf ∈ xG := xG_at 760 (by decide +kernel) (by decide +kernel)
theorem w_761 : Cond.code y_M_onesOf prog_10_method_23_code 3 (Option.some FieldType.int) ∈ xG := xG_at 761 (by decide +kernel) (by decide +kernel)
theorem w_762 : Cond.methodLink "LineCoderLaw" 87 y_M_word ∈ xG := xG_at 762 (by decide +kernel) (by decide +kernel)
theorem w_763 : Cond.instanceMethod y_M_word ∈ xG := xG_at 763 (by decide +kernel) (by decide +kernel)
theorem w_764 : Cond.selects "LineCoderModel" y_M_word y_M_word ∈ xG := xG_at 764 (by decide +kernel) (by decide +kernel)
theorem w_765 : Cond.code y_M_word prog_10_method_25_code 1 (Option.some FieldType.long) ∈ xG := xG_at 765 (by decide +kernel) (by decide +kernel)
theorem w_766 : Cond.methodLink "LineCoderLaw" 91 y_M_raw ∈ xG := xG_at 766 (by decide +kernel) (by decide +kernel)
theorem w_767 : Cond.instanceMethod y_M_raw ∈ xG := xG_at 767 (by decide +kernel) (by decide +kernel)
theorem w_768 : Cond.selects "LineCoderModel" y_M_raw y_M_raw ∈ xG := xG_at 768 (by decide +kernel) (by decide +kernel)
theorem w_769 : Cond.code y_M_raw prog_10_method_27_code 6 (Option.some FieldType.int) ∈ xG := xG_at 769 (by decide +kernel) (by decide +kernel)
theorem w_770 : Cond.methodLink "LineCoderModel" 135 y_M_isStream ∈ xG := xG_at 770 (by decide +kernel) (by decide +kernel)
theorem w_771 : Cond.static y_M_isStream ∈ xG := xG_at 771 (by decide +kernel) (by decide +kernel)
theorem w_772 : Cond.code y_M_isStream prog_10_method_26_code 1 (Option.some FieldType.boolean) ∈ xG := xG_at 772 (by decide +kernel) (by decide +kernel)
theorem w_773 : Cond.methodLink "LineCoderLaw" 95 y_M_bend ∈ xG := xG_at 773 (by decide +kernel) (by decide +kernel)
theorem w_774 : Cond.instanceMethod y_M_bend ∈ xG := xG_at 774 (by decide +kernel) (by decide +kernel)
theorem w_775 : Cond.selects "LineCoderModel" y_M_bend y_M_bend ∈ xG := xG_at 775 (by decide +kernel) (by decide +kernel)
theorem w_776 : Cond.code y_M_bend prog_10_method_28_code 3 (Option.some FieldType.boolean) ∈ xG := xG_at 776 (by decide +kernel) (by decide +kernel)
theorem w_777 : Cond.methodLink "LineCoderLaw" 98 y_M_lose ∈ xG := xG_at 777 (by decide +kernel) (by decide +kernel)
theorem w_778 : Cond.instanceMethod y_M_lose ∈ xG := xG_at 778 (by decide +kernel) (by decide +kernel)
theorem w_779 : Cond.selects "LineCoderModel" y_M_lose y_M_lose ∈ xG := xG_at 779 (by decide +kernel) (by decide +kernel)
theorem w_780 : Cond.code y_M_lose prog_10_method_29_code 7 (Option.some FieldType.int) ∈ xG := xG_at 780 (by decide +kernel) (by decide +kernel)
theorem w_781 : Cond.methodLink "LineCoderLaw" 101 y_M_bit ∈ xG := xG_at 781 (by decide +kernel) (by decide +kernel)
theorem w_782 : Cond.instanceMethod y_M_bit ∈ xG := xG_at 782 (by decide +kernel) (by decide +kernel)
theorem w_783 : Cond.selects "LineCoderModel" y_M_bit y_M_bit ∈ xG := xG_at 783 (by decide +kernel) (by decide +kernel)
theorem w_784 : Cond.code y_M_bit prog_10_method_30_code 3 (Option.some FieldType.int) ∈ xG := xG_at 784 (by decide +kernel) (by decide +kernel)
theorem w_785 : Cond.methodLink "LineCoderLaw" 104 y_M_count ∈ xG := xG_at 785 (by decide +kernel) (by decide +kernel)
theorem w_786 : Cond.instanceMethod y_M_count ∈ xG := xG_at 786 (by decide +kernel) (by decide +kernel)
theorem w_787 : Cond.selects "LineCoderModel" y_M_count y_M_count ∈ xG := xG_at 787 (by decide +kernel) (by decide +kernel)
theorem w_788 : Cond.code y_M_count prog_10_method_33_code 3 (Option.some FieldType.int) ∈ xG := xG_at 788 (by decide +kernel) (by decide +kernel)
theorem w_789 : Cond.methodLink "LineCoderModel" 138 y_M_balance ∈ xG := xG_at 789 (by decide +kernel) (by decide +kernel)
theorem w_791 : Cond.instanceMethod y_M_balance ∈ xG := xG_at 791 (by decide +kernel) (by decide +kernel)
theorem w_792 : Cond.code y_M_balance prog_10_method_31_code 4 (Option.some FieldType.int) ∈ xG := xG_at 792 (by decide +kernel) (by decide +kernel)
theorem w_793 : Cond.methodLink "LineCoderModel" 141 y_M_longest ∈ xG := xG_at 793 (by decide +kernel) (by decide +kernel)
theorem w_795 : Cond.instanceMethod y_M_longest ∈ xG := xG_at 795 (by decide +kernel) (by decide +kernel)
theorem w_796 : Cond.code y_M_longest prog_10_method_32_code 6 (Option.some FieldType.int) ∈ xG := xG_at 796 (by decide +kernel) (by decide +kernel)
theorem w_797 : Cond.methodLink "LineCoderLaw" 109 y_M_isPlus ∈ xG := xG_at 797 (by decide +kernel) (by decide +kernel)
theorem w_798 : Cond.instanceMethod y_M_isPlus ∈ xG := xG_at 798 (by decide +kernel) (by decide +kernel)
theorem w_799 : Cond.selects "LineCoderModel" y_M_isPlus y_M_isPlus ∈ xG := xG_at 799 (by decide +kernel) (by decide +kernel)
theorem w_800 : Cond.code y_M_isPlus prog_10_method_34_code 2 (Option.some FieldType.boolean) ∈ xG := xG_at 800 (by decide +kernel) (by decide +kernel)
theorem w_801 : Cond.constantLong "LineCoderLaw" 73 (4294967295 : Int64) ∈ xG := xG_at 801 (by decide +kernel) (by decide +kernel)
theorem w_802 : Cond.arrayClass FieldType.long ∈ xG := xG_at 802 (by decide +kernel) (by decide +kernel)
theorem w_803 : Cond.sameMethod "java/lang/Throwable" "java/lang/Throwable" "fillInStackTrace" "(I)Ljava/lang/Throwable;" ∈ xG := xG_at 803 (by decide +kernel) (by decide +kernel)
theorem s_T_isAtMark : Cond.selects "LineCoder$TenReceiver" y_T_isAtMark y_T_isAtMark ∈ xG := xG_of (List.mem_append_left _ (List.mem_of_getElem? (i := 0) (by decide +kernel))) (by decide +kernel)
theorem s_T_takeTen : Cond.selects "LineCoder$TenReceiver" y_T_takeTen y_T_takeTen ∈ xG := xG_of (List.mem_append_left _ (List.mem_of_getElem? (i := 1) (by decide +kernel))) (by decide +kernel)
theorem s_T_judge : Cond.selects "LineCoder$TenReceiver" y_T_judge y_T_judge ∈ xG := xG_of (List.mem_append_left _ (List.mem_of_getElem? (i := 2) (by decide +kernel))) (by decide +kernel)
theorem s_T_mark : Cond.selects "LineCoder$TenReceiver" y_T_mark y_T_mark ∈ xG := xG_of (List.mem_append_left _ (List.mem_of_getElem? (i := 3) (by decide +kernel))) (by decide +kernel)
theorem s_T_praise : Cond.selects "LineCoder$TenReceiver" y_T_praise y_T_praise ∈ xG := xG_of (List.mem_append_left _ (List.mem_of_getElem? (i := 4) (by decide +kernel))) (by decide +kernel)
theorem s_W_takeWord : Cond.selects "LineCoder$WordReceiver" y_W_takeWord y_W_takeWord ∈ xG := xG_of (List.mem_append_left _ (List.mem_of_getElem? (i := 5) (by decide +kernel))) (by decide +kernel)
theorem s_S_turning : Cond.selects "LineCoder$Stirrer" y_S_turning y_S_turning ∈ xG := xG_of (List.mem_append_left _ (List.mem_of_getElem? (i := 6) (by decide +kernel))) (by decide +kernel)
theorem s_S_remember : Cond.selects "LineCoder$Stirrer" y_S_remember y_S_remember ∈ xG := xG_of (List.mem_append_left _ (List.mem_of_getElem? (i := 7) (by decide +kernel))) (by decide +kernel)
theorem s_W_watch : Cond.selects "LineCoder$WordReceiver" y_W_watch y_W_watch ∈ xG := xG_of (List.mem_append_left _ (List.mem_of_getElem? (i := 8) (by decide +kernel))) (by decide +kernel)
theorem s_W_gain : Cond.selects "LineCoder$WordReceiver" y_W_gain y_W_gain ∈ xG := xG_of (List.mem_append_left _ (List.mem_of_getElem? (i := 9) (by decide +kernel))) (by decide +kernel)
theorem s_X_lineOf : Cond.selects "LineCoder" y_X_lineOf y_X_lineOf ∈ xG := xG_of (List.mem_append_left _ (List.mem_of_getElem? (i := 11) (by decide +kernel))) (by decide +kernel)
theorem s_M_make : Cond.selects "LineCoderModel" y_M_make y_M_make ∈ xG := xG_of (List.mem_append_left _ (List.mem_of_getElem? (i := 12) (by decide +kernel))) (by decide +kernel)
theorem s_M_empty : Cond.selects "LineCoderModel" y_M_empty y_M_empty ∈ xG := xG_of (List.mem_append_left _ (List.mem_of_getElem? (i := 13) (by decide +kernel))) (by decide +kernel)
theorem s_M_refused : Cond.selects "LineCoderModel" y_M_refused y_M_refused ∈ xG := xG_of (List.mem_append_left _ (List.mem_of_getElem? (i := 14) (by decide +kernel))) (by decide +kernel)
theorem s_M_append : Cond.selects "LineCoderModel" y_M_append y_M_append ∈ xG := xG_of (List.mem_append_left _ (List.mem_of_getElem? (i := 15) (by decide +kernel))) (by decide +kernel)
theorem s_M_bitsAt : Cond.selects "LineCoderModel" y_M_bitsAt y_M_bitsAt ∈ xG := xG_of (List.mem_append_left _ (List.mem_of_getElem? (i := 16) (by decide +kernel))) (by decide +kernel)
theorem s_M_taken : Cond.selects "LineCoderModel" y_M_taken y_M_taken ∈ xG := xG_of (List.mem_append_left _ (List.mem_of_getElem? (i := 17) (by decide +kernel))) (by decide +kernel)
theorem s_M_takeWord : Cond.selects "LineCoderModel" y_M_takeWord y_M_takeWord ∈ xG := xG_of (List.mem_append_left _ (List.mem_of_getElem? (i := 18) (by decide +kernel))) (by decide +kernel)
theorem s_M_balance : Cond.selects "LineCoderModel" y_M_balance y_M_balance ∈ xG := xG_of (List.mem_append_left _ (List.mem_of_getElem? (i := 19) (by decide +kernel))) (by decide +kernel)
theorem s_M_longest : Cond.selects "LineCoderModel" y_M_longest y_M_longest ∈ xG := xG_of (List.mem_append_left _ (List.mem_of_getElem? (i := 20) (by decide +kernel))) (by decide +kernel)
theorem uw_L : ∀ w ∈ u_ws "LineCoder$Line" T_L 3, w ∈ xG := by
  intro w h
  obtain ⟨k, hk, rfl⟩ := List.mem_map.mp h
  have hk := List.mem_range.mp hk
  match k, hk with
  | 0, _ => exact w_35
  | 1, _ => exact w_37
  | 2, _ => exact w_39
  | k + 3, h => exact absurd h (by omega)
theorem uw_S : ∀ w ∈ u_ws "LineCoder$Stirrer" T_S 1, w ∈ xG := by
  intro w h
  obtain ⟨k, hk, rfl⟩ := List.mem_map.mp h
  have hk := List.mem_range.mp hk
  match k, hk with
  | 0, _ => exact w_108
  | k + 1, h => exact absurd h (by omega)
theorem uw_T : ∀ w ∈ u_ws "LineCoder$TenReceiver" T_T 9, w ∈ xG := by
  intro w h
  obtain ⟨k, hk, rfl⟩ := List.mem_map.mp h
  have hk := List.mem_range.mp hk
  match k, hk with
  | 0, _ => exact w_83
  | 1, _ => exact w_85
  | 2, _ => exact w_87
  | 3, _ => exact w_89
  | 4, _ => exact w_91
  | 5, _ => exact w_75
  | 6, _ => exact w_77
  | 7, _ => exact w_79
  | 8, _ => exact w_81
  | k + 9, h => exact absurd h (by omega)
theorem uw_W : ∀ w ∈ u_ws "LineCoder$WordReceiver" T_W 9, w ∈ xG := by
  intro w h
  obtain ⟨k, hk, rfl⟩ := List.mem_map.mp h
  have hk := List.mem_range.mp hk
  match k, hk with
  | 0, _ => exact w_123
  | 1, _ => exact w_124
  | 2, _ => exact w_125
  | 3, _ => exact w_126
  | 4, _ => exact w_127
  | 5, _ => exact w_115
  | 6, _ => exact w_117
  | 7, _ => exact w_119
  | 8, _ => exact w_121
  | k + 9, h => exact absurd h (by omega)
theorem uw_X : ∀ w ∈ u_ws "LineCoder" T_X 6, w ∈ xG := by
  intro w h
  obtain ⟨k, hk, rfl⟩ := List.mem_map.mp h
  have hk := List.mem_range.mp hk
  match k, hk with
  | 0, _ => exact w_137
  | 1, _ => exact w_139
  | 2, _ => exact w_141
  | 3, _ => exact w_143
  | 4, _ => exact w_145
  | 5, _ => exact w_147
  | k + 6, h => exact absurd h (by omega)
theorem uw_M : ∀ w ∈ u_ws "LineCoderModel" T_M 23, w ∈ xG := by
  intro w h
  obtain ⟨k, hk, rfl⟩ := List.mem_map.mp h
  have hk := List.mem_range.mp hk
  match k, hk with
  | 0, _ => exact w_645
  | 1, _ => exact w_647
  | 2, _ => exact w_649
  | 3, _ => exact w_651
  | 4, _ => exact w_653
  | 5, _ => exact w_655
  | 6, _ => exact w_657
  | 7, _ => exact w_659
  | 8, _ => exact w_661
  | 9, _ => exact w_663
  | 10, _ => exact w_665
  | 11, _ => exact w_667
  | 12, _ => exact w_669
  | 13, _ => exact w_671
  | 14, _ => exact w_673
  | 15, _ => exact w_675
  | 16, _ => exact w_677
  | 17, _ => exact w_679
  | 18, _ => exact w_681
  | 19, _ => exact w_683
  | 20, _ => exact w_685
  | 21, _ => exact w_687
  | 22, _ => exact w_689
  | k + 23, h => exact absurd h (by omega)
end
section
/-! The judgement of a walk with its world (xW), the contract (xC), the rows of calls, throws, returns. -/
abbrev xE : Type := va_G × (Nat → Nat)
def xtys (E : xE) : List (ClassId × FieldType) := [(E.2 0, .byte), (E.2 1, .int), (E.2 2, .long), (E.2 3, .boolean)]
def sixT (j : Nat) : Int32 := [39, 29, 45, 49, 53, 41, 25, 56, 57, 37, 21, 52, 13, 44, 28, 23, 27, 35, 19, 50, 11, 42, 26, 58, 51, 38, 22, 54, 14, 46, 30, 43].getD j 0
def fourT (j : Nat) : Int32 := [11, 9, 5, 12, 13, 10, 6, 14].getD j 0
/-- a static of Throwable's that holds a reference or null -/
def xSt (n d : String) (A : Nat → Prop) (U : State) (H : Heap) : Prop := ∃ (c : ClassId) (k : Class) (i : Nat) (f : Field) (a : Nat) (cell : Cell) (v : Value), U.vm.findClass Bundle.tN = some c ∧ U.fieldFound? Bundle.tN n d = some (c, k, i, f) ∧ f.isStatic = true ∧ k.statics = some a ∧ cell.vm.isStatics = true ∧ cell.cls = c ∧ f.slot < cell.slots.size ∧ k.staticTypes[f.slot]? = some f.type ∧ cell.slots[f.slot]? = some v ∧ v.isRef = true ∧ H[a]? = some cell ∧ ¬ A a
theorem xSt.moved {n d : String} {A : Nat → Prop} {u U : State} {H : Heap} (hvm : u.vm.Alike U.vm) (h : xSt n d A u H) : xSt n d A U H := by
  obtain ⟨c, k, i, f, a, cell, v, h1, h2, h3, h4, h5, h6, h7, h8, h9⟩ := h
  obtain ⟨k', hi', he⟩ := State.fieldFound?_setVm hvm h2
  exact ⟨c, k', i, f, a, cell, v, by rw [hvm.findClass]; exact h1, hi', h3, by rw [he]; exact h4, h5, h6, h7, by rw [he]; exact h8, h9⟩
theorem xSt.kept {n d : String} {A : Nat → Prop} {U : State} {H H1 : Heap} (h : xSt n d A U H) (hq : ∀ a : Nat, a < H.size → ¬ A a → H1[a]? = H[a]?) : xSt n d A U H1 := by
  obtain ⟨c, k, i, f, a, cell, v, h1, h2, h3, h4, h5, h6, h7, h8, h9, h10, h11, h12⟩ := h
  exact ⟨c, k, i, f, a, cell, v, h1, h2, h3, h4, h5, h6, h7, h8, h9, h10, by rw [hq a (Array.getElem?_eq_some_iff.mp h11).1 h12]; exact h11, h12⟩
theorem xSt.narrow {n d : String} {A B : Nat → Prop} {U : State} {H : Heap} (h : xSt n d A U H) (hAB : ∀ q, B q → A q) : xSt n d B U H := by
  obtain ⟨c, k, i, f, a, cell, v, h1, h2, h3, h4, h5, h6, h7, h8, h9, h10, h11, h12⟩ := h
  exact ⟨c, k, i, f, a, cell, v, h1, h2, h3, h4, h5, h6, h7, h8, h9, h10, h11, fun z => h12 (hAB _ z)⟩
theorem xSt.lays {n d : String} {A : Nat → Prop} {U : State} {args : Array Value} (h : xSt n d A U U.heap) : (Cond.laysStatic Bundle.tN n d).before args U = true := by
  obtain ⟨c, k, i, f, a, cell, v, h1, h2, h3, h4, h5, h6, h7, h8, h9, h10, h11, h12⟩ := h
  exact Cond.laysStatic_of h1 h2 h3 h4 h11 h5 h6 h7 h8
theorem xSt.ref {n d : String} {A : Nat → Prop} {U : State} {args : Array Value} (h : xSt n d A U U.heap) : (Cond.isRef (.static Bundle.tN n d)).before args U = true := by
  obtain ⟨c, k, i, f, a, cell, v, h1, h2, h3, h4, h5, h6, h7, h8, h9, h10, h11, h12⟩ := h
  have ev : (Term.static Bundle.tN n d).eval args U none [] U = some v := by
    simp [Term.eval, State.fieldNamed?, h2, h3, h4, h11, h5, h9]
  simp only [Cond.before, Cond.holds, Cond.value, ev]
  cases v <;> simp_all [Value.isRef]
/-- what the tables of constants hold: carried everywhere -/
def xZ (E : xE) (A : Nat → Prop) (U : State) (H : Heap) : Prop :=
  xSt "UNASSIGNED_STACK" Bundle.steD A U H ∧ xSt "SUPPRESSED_SENTINEL" Bundle.listD A U H ∧ va_Z "LineCoder$TenCode" "SIX" "[I" (.ref (E.2 10)) A U H ∧ va_T .int (E.2 10) 32 (fun j => .int (sixT j)) A U H ∧ va_Z "LineCoder$TenCode" "FOUR" "[I" (.ref (E.2 11)) A U H ∧ va_T .int (E.2 11) 8 (fun j => .int (fourT j)) A U H
theorem xZ.moved {E : xE} {A : Nat → Prop} {u U : State} {H : Heap} (hW : u.WarmedH U.vm) (h : xZ E A u H) : xZ E A U H := ⟨xSt.moved hW.alike h.1, xSt.moved hW.alike h.2.1, va_Z.moved hW.alike h.2.2.1, va_T.moved hW.alike h.2.2.2.1, va_Z.moved hW.alike h.2.2.2.2.1, va_T.moved hW.alike h.2.2.2.2.2⟩
theorem xZ.kept {E : xE} {A : Nat → Prop} {U : State} {H H1 : Heap} (h : xZ E A U H) (hq : ∀ a : Nat, a < H.size → ¬ A a → H1[a]? = H[a]?) : xZ E A U H1 := ⟨h.1.kept hq, h.2.1.kept hq, h.2.2.1.kept hq, h.2.2.2.1.kept hq, h.2.2.2.2.1.kept hq, h.2.2.2.2.2.kept hq⟩
theorem xZ.narrow {E : xE} {A B : Nat → Prop} {U : State} {H : Heap} (h : xZ E A U H) (hAB : ∀ q, B q → A q) : xZ E B U H := ⟨h.1.narrow hAB, h.2.1.narrow hAB, h.2.2.1.narrow hAB, h.2.2.2.1.narrow hAB, h.2.2.2.2.1.narrow hAB, h.2.2.2.2.2.narrow hAB⟩
/-- a value returned, or an exception of a class -/
abbrev xO : Type := Option Value ⊕ String
def xIs (sz : Nat) (o : xO) (oc : Outcome) (t : State) : Prop := match o with
  | .inl v => oc = .returned v
  | .inr C => ∃ (a : Nat) (cell : Cell), oc = .threw a ∧ sz ≤ a ∧ t.heap[a]? = some cell ∧ cell.vm.isStatics = false ∧ t.vm.findClass C = some cell.cls
def xPre (E : xE) (av : List Value) (w : va_W) (sz : Nat) : Array Value → State → Prop := fun v U => v = av.toArray ∧ U.heap.size = sz ∧ va_P E.1 vwCl w U.heap ∧ va_K E.1 vwCl (xtys E) U ∧ va_D (fun _ => True) w ∧ xZ E (va_A w sz) U U.heap
def xPost (E : xE) (w : va_W) (sz : Nat) (Post : xO → va_W → Prop) : Array Value → State → Outcome → State → Prop := fun _ st oc t => (∃ (o : xO) (w' : va_W), xIs sz o oc t ∧ Post o w' ∧ va_P E.1 vwCl w' t.heap ∧ va_D (va_A w sz) w') ∧ va_F (va_A w sz) st t
/-- method y with arguments av in the world w: it ends, 'Post outcome world'; hd is its code word -/
def xC (l : Launch) (E : xE) (y : MethodName) (hd : Cond) (rm : Room) (av : List Value) (w : va_W) (Post : xO → va_W → Prop) : Prop :=
  ∀ sz : Nat, xMet l y (hd :: xG) rm (xPre E av w sz) (xPost E w sz Post) (va_A w sz)
theorem x_blind {E : xE} {av : List Value} {w : va_W} {sz : Nat} : FrameBlind (xPre E av w sz) := by
  intro a U g mk h
  obtain ⟨h1, h2, h3, h4, h5, h6⟩ := h
  exact ⟨h1, h2, h3, va_K.moved (u := U) (U := U.calling g mk a) (Vm.Alike.refl U.vm) h4, h5, xZ.moved (u := U) (U := U.calling g mk a) (State.WarmedH.refl U) h6⟩
def xMQ (below : List Frame) (E : xE) (w : va_W) (a : Array Value) (s : State) (mc ms : Nat) (Post : xO → va_W → Prop) : State → Prop := fun t =>
  ∃ o, t.status = .running ∧ Ended t below o ∧ xPost E w s.heap.size Post a s o t ∧ ∃ L, xEnd s t L mc ms ∧ ∀ q ∈ L, va_A w s.heap.size q.base
section XW
variable (p : Program) (l : Launch) (e : Env) (R : Room) (s : State) (m : MethodId) (args : Array Value) (below : List Frame) (meth : Method) (c : Code)
/-- the walk's judgement: at pc, locals lv, stack st, in the world ws, k cells and n slots made -/
def xW (nL : Nat) (E : xE) (B A : Nat → Prop) (k n : Nat) (Q : State → Prop) (ws : va_W) (pc : Nat) (lv : List (Nat × Value)) (st : List Value) : Prop :=
  ∀ (H : Heap) (locs : List Loc) (ls : Array Slot), lv_has ls nL lv → va_P E.1 vwCl ws H → va_D B ws → va_S A s.heap H locs → W p l e R s m args below meth c H locs k n Q (F0 m pc ls st)
/-- an exception of class C is being thrown at pc -/
def xT (nL : Nat) (E : xE) (B A : Nat → Prop) (k n : Nat) (Q : State → Prop) (ws : va_W) (pc : Nat) (lv : List (Nat × Value)) (C : String) : Prop :=
  ∀ (H : Heap) (locs : List Loc) (ls : Array Slot) (st : List Value) (a : Nat) (cell : Cell), lv_has ls nL lv → va_P E.1 vwCl ws H → va_D B ws → va_S A s.heap H locs → s.heap.size ≤ a → H[a]? = some cell → cell.vm.isStatics = false → s.vm.findClass C = some cell.cls →
    ∀ T : State, T.heap = H → Stand p l e R s m args below meth c T locs k n → ∃ t, Steps p.tables e below ((T.setTop (F0 m pc ls st)).pushFrame (.throwing a)) t ∧ Q t
end XW
/-- what stays the same over a method's walk -/
def xB (p : Program) (s : State) (m : MethodId) (args : Array Value) (meth : Method) (c : Code) (E : xE) (A : Nat → Prop) (own : String) (cc : ByteArray) (nL : Nat) (ret : Option FieldType) (mn : String) (hs : List (Nat × Nat × Nat × Nat)) : Prop :=
  p.tables.exec = Jvm.exec ∧ c.code = cc ∧ c.maxLocals = nL ∧ s.vm.findClass own = some m.cls ∧ (∀ w ∈ xG, w.before args s = true) ∧ va_K E.1 vwCl (xtys E) s ∧ xZ E A s s.heap ∧ meth.sig.returnType = ret ∧ meth.locks = false ∧ (∀ q, s.heap.size ≤ q → A q) ∧ meth.name = mn ∧ (∀ q, A q → ∀ cell : Cell, s.heap[q]? = some cell → cell.vm.isStatics = false) ∧ c.exceptionTable.toList.map (fun h => (h.startPc, h.endPc, h.handlerPc, h.catchType)) = hs
section XR
variable {p : Program} {l : Launch} {e : Env} {R : Room} {s : State} {m : MethodId} {args : Array Value} {below : List Frame} {meth : Method} {c : Code} {nL : Nat} {E : xE} {B A : Nat → Prop} {k n : Nat} {Q : State → Prop} {ws : va_W} {pc : Nat} {lv : List (Nat × Value)} {st rest : List Value} {own mn : String} {cc : ByteArray} {ret : Option FieldType} {hs : List (Nat × Nat × Nat × Nat)}
theorem xB.qx (h : xB p s m args meth c E A own cc nL ret mn hs) : p.tables.exec = Jvm.exec := h.1
theorem xB.qb (h : xB p s m args meth c E A own cc nL ret mn hs) : c.code = cc := h.2.1
theorem xB.ql (h : xB p s m args meth c E A own cc nL ret mn hs) : c.maxLocals = nL := h.2.2.1
theorem xB.qo (h : xB p s m args meth c E A own cc nL ret mn hs) : s.vm.findClass own = some m.cls := h.2.2.2.1
theorem xB.qt (h : xB p s m args meth c E A own cc nL ret mn hs) : ∀ w ∈ xG, w.before args s = true := h.2.2.2.2.1
theorem xB.qk (h : xB p s m args meth c E A own cc nL ret mn hs) : va_K E.1 vwCl (xtys E) s := h.2.2.2.2.2.1
theorem xB.qz (h : xB p s m args meth c E A own cc nL ret mn hs) : xZ E A s s.heap := h.2.2.2.2.2.2.1
theorem xB.qr (h : xB p s m args meth c E A own cc nL ret mn hs) : meth.sig.returnType = ret := h.2.2.2.2.2.2.2.1
theorem xB.qn (h : xB p s m args meth c E A own cc nL ret mn hs) : meth.locks = false := h.2.2.2.2.2.2.2.2.1
theorem xB.qa (h : xB p s m args meth c E A own cc nL ret mn hs) : ∀ q, s.heap.size ≤ q → A q := h.2.2.2.2.2.2.2.2.2.1
theorem xB.qm (h : xB p s m args meth c E A own cc nL ret mn hs) : meth.name = mn := h.2.2.2.2.2.2.2.2.2.2.1
theorem xB.qs (h : xB p s m args meth c E A own cc nL ret mn hs) : ∀ q, A q → ∀ cell : Cell, s.heap[q]? = some cell → cell.vm.isStatics = false := h.2.2.2.2.2.2.2.2.2.2.2.1
theorem xB.qe (h : xB p s m args meth c E A own cc nL ret mn hs) : c.exceptionTable.toList.map (fun h => (h.startPc, h.endPc, h.handlerPc, h.catchType)) = hs := h.2.2.2.2.2.2.2.2.2.2.2.2
theorem x_nst {D : va_G} {cl : List vw_C} {w : va_W} {H : Heap} (hP : va_P D cl w H) : ∀ q, va_A w H.size q → ∀ cell : Cell, H[q]? = some cell → cell.vm.isStatics = false := by
  intro q hq cell hc
  rcases hq with ⟨k, e, hk⟩ | hq
  · have h := hP k (q, e) hk
    cases e with
    | inl a =>
      have h : H[q]? = some (vp_cell a.1 a.2) := h
      rw [hc] at h
      cases h
      obtain ⟨c, n, v⟩ := a
      rcases v with f | f | f | f | f <;> rfl
    | inr o =>
      obtain ⟨r, -, cell', h1, h2, h3, -⟩ := h
      have h1 : H[q]? = some cell' := h1
      rw [hc] at h1
      cases h1
      rw [h3]
      rfl
  · exact absurd (Array.getElem?_eq_some_iff.mp hc).1 (by omega)
/-- a contract out of a walk from the method's entry -/
theorem x_of {y : MethodName} {rm : Room} {av : List Value} {w : va_W} {Post : xO → va_W → Prop} (hy : plainFor y = true) (hsl : (lg_sl av).length ≤ nL) (hlv : lv_args 0 av = lv)
    (body : ∀ p e s m args below meth c A, A = va_A w s.heap.size → xB p s m args meth c E A y.cls cc nL ret y.name [] → xW p l e rm s m args below meth c nL E A A 0 0 (xMQ below E w args s rm.cells rm.slots Post) w 0 lv []) : xC l E y (.code y cc nL ret) rm av w Post := by
  intro sz
  refine MetFree.of_bodySF (code := cc) (maxLocals := nL) (ret := ret) hy ?_ ?_
  · intro args s m h hn
    obtain ⟨meth, c, h1, h2, h3, h4, h5, h6, -, -⟩ := Cond.code_spec hn (atoms_spec (ws := Cond.code y cc nL ret :: xG) h _ List.mem_cons_self)
    exact ⟨meth, c, h1, h2, h3, h4, h5, h6⟩
  · intro p e s m args below meth c s₁ B hml hP _
    obtain ⟨rfl, rfl, hP, hK, hD, hZ⟩ := hP
    have hts := atoms_spec (ws := Cond.code y cc nL ret :: xG) B.pre
    have hh0 : s₁.heap = s.heap := by rw [B.state]; rfl
    have hne : c.exceptionTable.isEmpty = true := B.noHandlers (hts _ List.mem_cons_self)
    have hl := lv_entry av (n := nL) hsl
    have K : W p l e rm s m av.toArray below meth c s.heap [] 0 0 (xMQ below E w av.toArray s rm.cells rm.slots Post) (entryFrame m av.toArray nL) := by
      rw [lg_entry_eq]
      refine body p e s m av.toArray below meth c _ rfl ⟨B.exec, B.bytes, hml, findClass_of_methodNamed B.named, fun w hw => hts w (List.mem_cons_of_mem _ hw), hK, hZ, B.returns, B.notSynchronized, fun q h => Or.inr h, (name_of_methodNamed B.named B.method).1, x_nst hP, ?_⟩ s.heap [] _ ?_ hP hD.self va_S.rf
      · rw [show c.exceptionTable = #[] from Array.isEmpty_iff.mp hne]; rfl
      · rw [← hlv]; exact hl
    obtain ⟨t, a1, o, b1, b2, b3, b4⟩ := K s₁ hh0 (Stand.of_body B)
    exact ⟨t, o, a1, b1, b2, b3, b4⟩
/-- the same for a method with handlers -/
theorem x_ofH {y : MethodName} {rm : Room} {av : List Value} {w : va_W} {Post : xO → va_W → Prop} (hy : plainFor y = true) (hsl : (lg_sl av).length ≤ nL) (hlv : lv_args 0 av = lv)
    (body : ∀ p e s m args below meth c A, A = va_A w s.heap.size → xB p s m args meth c E A y.cls cc nL ret y.name hs → xW p l e rm s m args below meth c nL E A A 0 0 (xMQ below E w args s rm.cells rm.slots Post) w 0 lv []) : xC l E y (.codeWith y cc nL ret hs) rm av w Post := by
  intro sz
  refine MetFree.of_bodySF (code := cc) (maxLocals := nL) (ret := ret) hy ?_ ?_
  · intro args s m h hn
    obtain ⟨m', meth, c, h0, h1, h2, h3, h4, -, h5, h6, -⟩ := Cond.codeWith_spec (atoms_spec (ws := Cond.codeWith y cc nL ret hs :: xG) h _ List.mem_cons_self)
    cases hn.symm.trans h0
    exact ⟨meth, c, h1, h2, h3, h4, h5, h6⟩
  · intro p e s m args below meth c s₁ B hml hP _
    obtain ⟨rfl, rfl, hP, hK, hD, hZ⟩ := hP
    have hts := atoms_spec (ws := Cond.codeWith y cc nL ret hs :: xG) B.pre
    have hh0 : s₁.heap = s.heap := by rw [B.state]; rfl
    have hl := lv_entry av (n := nL) hsl
    have hex : c.exceptionTable.toList.map (fun h => (h.startPc, h.endPc, h.handlerPc, h.catchType)) = hs := by
      obtain ⟨m', meth', c', h0, h1, h2, h3, h4, h5, -⟩ := Cond.codeWith_spec (hts _ List.mem_cons_self)
      cases B.named.symm.trans h0
      cases B.method.symm.trans h1
      cases (Stand.of_body B).code.symm.trans h2
      exact h5
    have K : W p l e rm s m av.toArray below meth c s.heap [] 0 0 (xMQ below E w av.toArray s rm.cells rm.slots Post) (entryFrame m av.toArray nL) := by
      rw [lg_entry_eq]
      refine body p e s m av.toArray below meth c _ rfl ⟨B.exec, B.bytes, hml, findClass_of_methodNamed B.named, fun w hw => hts w (List.mem_cons_of_mem _ hw), hK, hZ, B.returns, B.notSynchronized, fun q h => Or.inr h, (name_of_methodNamed B.named B.method).1, x_nst hP, hex⟩ s.heap [] _ ?_ hP hD.self va_S.rf
      rw [← hlv]; exact hl
    obtain ⟨t, a1, o, b1, b2, b3, b4⟩ := K s₁ hh0 (Stand.of_body B)
    exact ⟨t, o, a1, b1, b2, b3, b4⟩
theorem x_cb {N b : Nat} (h : N < 65536) (hb : b ≤ 8) : N * b ≤ 536870912 := Nat.le_trans (Nat.mul_le_mul_left _ hb) (by omega)
theorem x_iconst (npc : Nat) (hB : xB p s m args meth c E A own cc nL ret mn hs) {z : Int} {v : Int32} (hd : decode cc pc = .ok (.iconst z, 1)) (hn : pc + 1 = npc) (hv : Int32.ofInt z = v) (kk : xW p l e R s m args below meth c nL E B A k n Q ws npc lv (.int v :: rest)) : xW p l e R s m args below meth c nL E B A k n Q ws pc lv (rest) := fun H locs ls hl hP hD hS => by
  subst hn
  exact lv_iconst hB.qx hB.qb hd hv (kk H locs ls hl hP hD hS)
theorem x_bipush (npc : Nat) (hB : xB p s m args meth c E A own cc nL ret mn hs) {z : Int} {v : Int32} (hd : decode cc pc = .ok (.bipush z, 2)) (hn : pc + 2 = npc) (hv : (Int8.ofInt z).toInt32 = v) (kk : xW p l e R s m args below meth c nL E B A k n Q ws npc lv (.int v :: rest)) : xW p l e R s m args below meth c nL E B A k n Q ws pc lv (rest) := fun H locs ls hl hP hD hS => by
  subst hn
  exact lv_bipush hB.qx hB.qb hd hv (kk H locs ls hl hP hD hS)
theorem x_sipush (npc : Nat) (hB : xB p s m args meth c E A own cc nL ret mn hs) {z : Int} {v : Int32} (hd : decode cc pc = .ok (.sipush z, 3)) (hn : pc + 3 = npc) (hv : (Int16.ofInt z).toInt32 = v) (kk : xW p l e R s m args below meth c nL E B A k n Q ws npc lv (.int v :: rest)) : xW p l e R s m args below meth c nL E B A k n Q ws pc lv (rest) := fun H locs ls hl hP hD hS => by
  subst hn
  exact lv_sipush hB.qx hB.qb hd hv (kk H locs ls hl hP hD hS)
theorem x_lconst (npc : Nat) (hB : xB p s m args meth c E A own cc nL ret mn hs) {z : Fin 2} {v : Int64} (hd : decode cc pc = .ok (.lconst z, 1)) (hn : pc + 1 = npc) (hv : Int64.ofNat (z : Nat) = v) (kk : xW p l e R s m args below meth c nL E B A k n Q ws npc lv (.long v :: rest)) : xW p l e R s m args below meth c nL E B A k n Q ws pc lv (rest) := fun H locs ls hl hP hD hS => by
  subst hn
  exact lv_lconst hB.qx hB.qb hd hv (kk H locs ls hl hP hD hS)
theorem x_ldc (npc : Nat) (hB : xB p s m args meth c E A own cc nL ret mn hs) {z : Nat} {v : Int32} (hd : decode cc pc = .ok (.ldc z, 2)) (hn : pc + 2 = npc) (hw : Cond.constant own z v ∈ xG) (kk : xW p l e R s m args below meth c nL E B A k n Q ws npc lv (.int v :: rest)) : xW p l e R s m args below meth c nL E B A k n Q ws pc lv (rest) := fun H locs ls hl hP hD hS => by
  subst hn
  exact lv_ldc hB.qx hB.qb hB.qo (hB.qt _ hw) hd (kk H locs ls hl hP hD hS)
theorem x_ldc2 (npc : Nat) (hB : xB p s m args meth c E A own cc nL ret mn hs) {z : Nat} {v : Int64} (hd : decode cc pc = .ok (.ldc2_w z, 3)) (hn : pc + 3 = npc) (hw : Cond.constantLong own z v ∈ xG) (kk : xW p l e R s m args below meth c nL E B A k n Q ws npc lv (.long v :: rest)) : xW p l e R s m args below meth c nL E B A k n Q ws pc lv (rest) := fun H locs ls hl hP hD hS => by
  subst hn
  exact lv_ldc2 hB.qx hB.qb hB.qo (hB.qt _ hw) hd (kk H locs ls hl hP hD hS)
theorem x_null (npc : Nat) (hB : xB p s m args meth c E A own cc nL ret mn hs)  (hd : decode cc pc = .ok (.aconst_null, 1)) (hn : pc + 1 = npc)  (kk : xW p l e R s m args below meth c nL E B A k n Q ws npc lv (.null :: rest)) : xW p l e R s m args below meth c nL E B A k n Q ws pc lv (rest) := fun H locs ls hl hP hD hS => by
  subst hn
  exact lv_null hB.qx hB.qb hd (kk H locs ls hl hP hD hS)
theorem x_lk {ls : Array Slot} {nL : Nat} {lv : List (Nat × Value)} (h : lv_has ls nL lv) {i : Nat} {v : Value} (hk : List.lookup i lv = some v) : ls[i]? = some (.val v) := by
  refine h.2.2 (i, v) ?_
  clear h
  induction lv with
  | nil => simp at hk
  | cons q t ih =>
    obtain ⟨j, w⟩ := q
    rw [List.lookup_cons] at hk
    by_cases hj : i = j
    · subst hj
      simp at hk
      subst hk
      exact List.mem_cons_self
    · have hb : (i == j) = false := by simpa using hj
      rw [hb] at hk
      exact List.mem_cons_of_mem _ (ih hk)
theorem x_iload_n (npc : Nat) (hB : xB p s m args meth c E A own cc nL ret mn hs) {z : Fin 4} {v : Int32} (hd : decode cc pc = .ok (.iload_n z, 1)) (hn : pc + 1 = npc) (hk : List.lookup (z : Nat) lv = some (.int v)) (kk : xW p l e R s m args below meth c nL E B A k n Q ws npc lv (.int v :: rest)) : xW p l e R s m args below meth c nL E B A k n Q ws pc lv (rest) := fun H locs ls hl hP hD hS => by
  subst hn
  exact lv_iload_n hB.qx hB.qb hd rfl (x_lk hl hk) (kk H locs ls hl hP hD hS)
theorem x_iload (npc : Nat) (hB : xB p s m args meth c E A own cc nL ret mn hs) {z : Nat} {v : Int32} (hd : decode cc pc = .ok (.iload z, 2)) (hn : pc + 2 = npc) (hk : List.lookup z lv = some (.int v)) (kk : xW p l e R s m args below meth c nL E B A k n Q ws npc lv (.int v :: rest)) : xW p l e R s m args below meth c nL E B A k n Q ws pc lv (rest) := fun H locs ls hl hP hD hS => by
  subst hn
  exact lv_iload hB.qx hB.qb hd (x_lk hl hk) (kk H locs ls hl hP hD hS)
theorem x_lload_n (npc : Nat) (hB : xB p s m args meth c E A own cc nL ret mn hs) {z : Fin 4} {v : Int64} (hd : decode cc pc = .ok (.lload_n z, 1)) (hn : pc + 1 = npc) (hk : List.lookup (z : Nat) lv = some (.long v)) (kk : xW p l e R s m args below meth c nL E B A k n Q ws npc lv (.long v :: rest)) : xW p l e R s m args below meth c nL E B A k n Q ws pc lv (rest) := fun H locs ls hl hP hD hS => by
  subst hn
  exact lv_lload_n hB.qx hB.qb hd rfl (x_lk hl hk) (kk H locs ls hl hP hD hS)
theorem x_lload (npc : Nat) (hB : xB p s m args meth c E A own cc nL ret mn hs) {z : Nat} {v : Int64} (hd : decode cc pc = .ok (.lload z, 2)) (hn : pc + 2 = npc) (hk : List.lookup z lv = some (.long v)) (kk : xW p l e R s m args below meth c nL E B A k n Q ws npc lv (.long v :: rest)) : xW p l e R s m args below meth c nL E B A k n Q ws pc lv (rest) := fun H locs ls hl hP hD hS => by
  subst hn
  exact lv_lload hB.qx hB.qb hd (x_lk hl hk) (kk H locs ls hl hP hD hS)
theorem x_aload_n (npc : Nat) (hB : xB p s m args meth c E A own cc nL ret mn hs) {z : Fin 4} {v : Nat} (hd : decode cc pc = .ok (.aload_n z, 1)) (hn : pc + 1 = npc) (hk : List.lookup (z : Nat) lv = some (.ref v)) (kk : xW p l e R s m args below meth c nL E B A k n Q ws npc lv (.ref v :: rest)) : xW p l e R s m args below meth c nL E B A k n Q ws pc lv (rest) := fun H locs ls hl hP hD hS => by
  subst hn
  exact lv_aload_n hB.qx hB.qb hd rfl (x_lk hl hk) (kk H locs ls hl hP hD hS)
theorem x_aload (npc : Nat) (hB : xB p s m args meth c E A own cc nL ret mn hs) {z : Nat} {v : Nat} (hd : decode cc pc = .ok (.aload z, 2)) (hn : pc + 2 = npc) (hk : List.lookup z lv = some (.ref v)) (kk : xW p l e R s m args below meth c nL E B A k n Q ws npc lv (.ref v :: rest)) : xW p l e R s m args below meth c nL E B A k n Q ws pc lv (rest) := fun H locs ls hl hP hD hS => by
  subst hn
  exact lv_aload hB.qx hB.qb hd (x_lk hl hk) (kk H locs ls hl hP hD hS)
theorem x_aload_nN (npc : Nat) (hB : xB p s m args meth c E A own cc nL ret mn hs) {z : Fin 4} (hd : decode cc pc = .ok (.aload_n z, 1)) (hn : pc + 1 = npc) (hk : List.lookup (z : Nat) lv = some .null) (kk : xW p l e R s m args below meth c nL E B A k n Q ws npc lv (.null :: rest)) : xW p l e R s m args below meth c nL E B A k n Q ws pc lv (rest) := fun H locs ls hl hP hD hS => by
  subst hn
  exact lv_aload_nN hB.qx hB.qb hd rfl (x_lk hl hk) (kk H locs ls hl hP hD hS)
theorem x_istore_n (npc : Nat) (hB : xB p s m args meth c E A own cc nL ret mn hs) {z : Fin 4} {v : Int32} {lv' : List (Nat × Value)} (hd : decode cc pc = .ok (.istore_n z, 1)) (hn : pc + 1 = npc) (hi : (z : Nat) < nL) (hl' : ((z : Nat), Value.int v) :: lv.filter (fun q => !(q.1 == (z : Nat)) && !(q.1 + 1 == (z : Nat) && q.2.category == 2)) = lv') (kk : xW p l e R s m args below meth c nL E B A k n Q ws npc lv' rest) : xW p l e R s m args below meth c nL E B A k n Q ws pc lv (.int v :: rest) := fun H locs ls hl hP hD hS => by
  subst hn
  exact lv_istore_n hB.qx hB.qb hd rfl hl hi hl' (fun ls' hl' => kk H locs ls' hl' hP hD hS)
theorem x_istore (npc : Nat) (hB : xB p s m args meth c E A own cc nL ret mn hs) {z : Nat} {v : Int32} {lv' : List (Nat × Value)} (hd : decode cc pc = .ok (.istore z, 2)) (hn : pc + 2 = npc) (hi : z < nL) (hl' : (z, Value.int v) :: lv.filter (fun q => !(q.1 == z) && !(q.1 + 1 == z && q.2.category == 2)) = lv') (kk : xW p l e R s m args below meth c nL E B A k n Q ws npc lv' rest) : xW p l e R s m args below meth c nL E B A k n Q ws pc lv (.int v :: rest) := fun H locs ls hl hP hD hS => by
  subst hn
  exact lv_istore hB.qx hB.qb hd hl hi hl' (fun ls' hl' => kk H locs ls' hl' hP hD hS)
theorem x_astore_n (npc : Nat) (hB : xB p s m args meth c E A own cc nL ret mn hs) {z : Fin 4} {v : Nat} {lv' : List (Nat × Value)} (hd : decode cc pc = .ok (.astore_n z, 1)) (hn : pc + 1 = npc) (hi : (z : Nat) < nL) (hl' : ((z : Nat), Value.ref v) :: lv.filter (fun q => !(q.1 == (z : Nat)) && !(q.1 + 1 == (z : Nat) && q.2.category == 2)) = lv') (kk : xW p l e R s m args below meth c nL E B A k n Q ws npc lv' rest) : xW p l e R s m args below meth c nL E B A k n Q ws pc lv (.ref v :: rest) := fun H locs ls hl hP hD hS => by
  subst hn
  exact lv_astore_n hB.qx hB.qb hd rfl hl hi hl' (fun ls' hl' => kk H locs ls' hl' hP hD hS)
theorem x_astore (npc : Nat) (hB : xB p s m args meth c E A own cc nL ret mn hs) {z : Nat} {v : Nat} {lv' : List (Nat × Value)} (hd : decode cc pc = .ok (.astore z, 2)) (hn : pc + 2 = npc) (hi : z < nL) (hl' : (z, Value.ref v) :: lv.filter (fun q => !(q.1 == z) && !(q.1 + 1 == z && q.2.category == 2)) = lv') (kk : xW p l e R s m args below meth c nL E B A k n Q ws npc lv' rest) : xW p l e R s m args below meth c nL E B A k n Q ws pc lv (.ref v :: rest) := fun H locs ls hl hP hD hS => by
  subst hn
  exact lv_astore hB.qx hB.qb hd hl hi hl' (fun ls' hl' => kk H locs ls' hl' hP hD hS)
theorem x_lstore_n (npc : Nat) (hB : xB p s m args meth c E A own cc nL ret mn hs) {z : Fin 4} {v : Int64} {lv' : List (Nat × Value)} (hd : decode cc pc = .ok (.lstore_n z, 1)) (hn : pc + 1 = npc) (hi : (z : Nat) + 1 < nL) (hl' : ((z : Nat), Value.long v) :: lv.filter (fun q => !(q.1 == (z : Nat)) && (!(q.1 == (z : Nat) + 1) && !(q.1 + 1 == (z : Nat) && q.2.category == 2))) = lv') (kk : xW p l e R s m args below meth c nL E B A k n Q ws npc lv' rest) : xW p l e R s m args below meth c nL E B A k n Q ws pc lv (.long v :: rest) := fun H locs ls hl hP hD hS => by
  subst hn
  exact lv_lstore_n hB.qx hB.qb hd rfl hl hi hl' (fun ls' hl' => kk H locs ls' hl' hP hD hS)
theorem x_lstore (npc : Nat) (hB : xB p s m args meth c E A own cc nL ret mn hs) {z : Nat} {v : Int64} {lv' : List (Nat × Value)} (hd : decode cc pc = .ok (.lstore z, 2)) (hn : pc + 2 = npc) (hi : z + 1 < nL) (hl' : (z, Value.long v) :: lv.filter (fun q => !(q.1 == z) && (!(q.1 == z + 1) && !(q.1 + 1 == z && q.2.category == 2))) = lv') (kk : xW p l e R s m args below meth c nL E B A k n Q ws npc lv' rest) : xW p l e R s m args below meth c nL E B A k n Q ws pc lv (.long v :: rest) := fun H locs ls hl hP hD hS => by
  subst hn
  exact lv_lstore hB.qx hB.qb hd hl hi hl' (fun ls' hl' => kk H locs ls' hl' hP hD hS)
theorem x_iinc (npc : Nat) (hB : xB p s m args meth c E A own cc nL ret mn hs) {z : Nat} {d : Int} {x v : Int32} {lv' : List (Nat × Value)} (hd : decode cc pc = .ok (.iinc z d, 3)) (hn : pc + 3 = npc) (kp : Nat) (hk : lv[kp]? = some (z, .int x)) (hv : x + Int32.ofInt d = v) (hi : z < nL) (hl' : (z, Value.int v) :: lv.filter (fun q => !(q.1 == z) && !(q.1 + 1 == z && q.2.category == 2)) = lv') (kk : xW p l e R s m args below meth c nL E B A k n Q ws npc lv' rest) : xW p l e R s m args below meth c nL E B A k n Q ws pc lv rest := fun H locs ls hl hP hD hS => by
  subst hn
  exact lv_iinc hB.qx hB.qb hd hl hk hv hi hl' (fun ls' hl' => kk H locs ls' hl' hP hD hS)
theorem x_iadd (npc : Nat) (hB : xB p s m args meth c E A own cc nL ret mn hs) {x y : Int32} (hd : decode cc pc = .ok (.iadd, 1)) (hn : pc + 1 = npc)  (kk : xW p l e R s m args below meth c nL E B A k n Q ws npc lv (.int (x + y) :: rest)) : xW p l e R s m args below meth c nL E B A k n Q ws pc lv (.int y :: .int x :: rest) := fun H locs ls hl hP hD hS => by
  subst hn
  exact lv_iadd hB.qx hB.qb hd (kk H locs ls hl hP hD hS)
theorem x_isub (npc : Nat) (hB : xB p s m args meth c E A own cc nL ret mn hs) {x y : Int32} (hd : decode cc pc = .ok (.isub, 1)) (hn : pc + 1 = npc)  (kk : xW p l e R s m args below meth c nL E B A k n Q ws npc lv (.int (x - y) :: rest)) : xW p l e R s m args below meth c nL E B A k n Q ws pc lv (.int y :: .int x :: rest) := fun H locs ls hl hP hD hS => by
  subst hn
  exact lv_isub hB.qx hB.qb hd (kk H locs ls hl hP hD hS)
theorem x_imul (npc : Nat) (hB : xB p s m args meth c E A own cc nL ret mn hs) {x y : Int32} (hd : decode cc pc = .ok (.imul, 1)) (hn : pc + 1 = npc)  (kk : xW p l e R s m args below meth c nL E B A k n Q ws npc lv (.int (x * y) :: rest)) : xW p l e R s m args below meth c nL E B A k n Q ws pc lv (.int y :: .int x :: rest) := fun H locs ls hl hP hD hS => by
  subst hn
  exact lv_imul hB.qx hB.qb hd (kk H locs ls hl hP hD hS)
theorem x_iand (npc : Nat) (hB : xB p s m args meth c E A own cc nL ret mn hs) {x y : Int32} (hd : decode cc pc = .ok (.iand, 1)) (hn : pc + 1 = npc)  (kk : xW p l e R s m args below meth c nL E B A k n Q ws npc lv (.int (x &&& y) :: rest)) : xW p l e R s m args below meth c nL E B A k n Q ws pc lv (.int y :: .int x :: rest) := fun H locs ls hl hP hD hS => by
  subst hn
  exact lv_iand hB.qx hB.qb hd (kk H locs ls hl hP hD hS)
theorem x_ior (npc : Nat) (hB : xB p s m args meth c E A own cc nL ret mn hs) {x y : Int32} (hd : decode cc pc = .ok (.ior, 1)) (hn : pc + 1 = npc)  (kk : xW p l e R s m args below meth c nL E B A k n Q ws npc lv (.int (x ||| y) :: rest)) : xW p l e R s m args below meth c nL E B A k n Q ws pc lv (.int y :: .int x :: rest) := fun H locs ls hl hP hD hS => by
  subst hn
  exact lv_ior hB.qx hB.qb hd (kk H locs ls hl hP hD hS)
theorem x_ixor (npc : Nat) (hB : xB p s m args meth c E A own cc nL ret mn hs) {x y : Int32} (hd : decode cc pc = .ok (.ixor, 1)) (hn : pc + 1 = npc)  (kk : xW p l e R s m args below meth c nL E B A k n Q ws npc lv (.int (x ^^^ y) :: rest)) : xW p l e R s m args below meth c nL E B A k n Q ws pc lv (.int y :: .int x :: rest) := fun H locs ls hl hP hD hS => by
  subst hn
  exact lv_ixor hB.qx hB.qb hd (kk H locs ls hl hP hD hS)
theorem x_idiv (npc : Nat) (hB : xB p s m args meth c E A own cc nL ret mn hs) {x y : Int32} (hd : decode cc pc = .ok (.idiv, 1)) (hn : pc + 1 = npc) (h0 : ¬ y = 0) (kk : xW p l e R s m args below meth c nL E B A k n Q ws npc lv (.int (x / y) :: rest)) : xW p l e R s m args below meth c nL E B A k n Q ws pc lv (.int y :: .int x :: rest) := fun H locs ls hl hP hD hS => by
  subst hn
  exact lv_idiv hB.qx hB.qb hd h0 (kk H locs ls hl hP hD hS)
theorem x_irem (npc : Nat) (hB : xB p s m args meth c E A own cc nL ret mn hs) {x y : Int32} (hd : decode cc pc = .ok (.irem, 1)) (hn : pc + 1 = npc) (h0 : ¬ y = 0) (kk : xW p l e R s m args below meth c nL E B A k n Q ws npc lv (.int (x - x / y * y) :: rest)) : xW p l e R s m args below meth c nL E B A k n Q ws pc lv (.int y :: .int x :: rest) := fun H locs ls hl hP hD hS => by
  subst hn
  exact lv_irem hB.qx hB.qb hd h0 (kk H locs ls hl hP hD hS)
theorem x_ineg (npc : Nat) (hB : xB p s m args meth c E A own cc nL ret mn hs) {x : Int32} (hd : decode cc pc = .ok (.ineg, 1)) (hn : pc + 1 = npc)  (kk : xW p l e R s m args below meth c nL E B A k n Q ws npc lv (.int (-x) :: rest)) : xW p l e R s m args below meth c nL E B A k n Q ws pc lv (.int x :: rest) := fun H locs ls hl hP hD hS => by
  subst hn
  exact lv_ineg hB.qx hB.qb hd (kk H locs ls hl hP hD hS)
theorem x_ladd (npc : Nat) (hB : xB p s m args meth c E A own cc nL ret mn hs) {x y : Int64} (hd : decode cc pc = .ok (.ladd, 1)) (hn : pc + 1 = npc)  (kk : xW p l e R s m args below meth c nL E B A k n Q ws npc lv (.long (x + y) :: rest)) : xW p l e R s m args below meth c nL E B A k n Q ws pc lv (.long y :: .long x :: rest) := fun H locs ls hl hP hD hS => by
  subst hn
  exact lv_ladd hB.qx hB.qb hd (kk H locs ls hl hP hD hS)
theorem x_lsub (npc : Nat) (hB : xB p s m args meth c E A own cc nL ret mn hs) {x y : Int64} (hd : decode cc pc = .ok (.lsub, 1)) (hn : pc + 1 = npc)  (kk : xW p l e R s m args below meth c nL E B A k n Q ws npc lv (.long (x - y) :: rest)) : xW p l e R s m args below meth c nL E B A k n Q ws pc lv (.long y :: .long x :: rest) := fun H locs ls hl hP hD hS => by
  subst hn
  exact lv_lsub hB.qx hB.qb hd (kk H locs ls hl hP hD hS)
theorem x_lmul (npc : Nat) (hB : xB p s m args meth c E A own cc nL ret mn hs) {x y : Int64} (hd : decode cc pc = .ok (.lmul, 1)) (hn : pc + 1 = npc)  (kk : xW p l e R s m args below meth c nL E B A k n Q ws npc lv (.long (x * y) :: rest)) : xW p l e R s m args below meth c nL E B A k n Q ws pc lv (.long y :: .long x :: rest) := fun H locs ls hl hP hD hS => by
  subst hn
  exact lv_lmul hB.qx hB.qb hd (kk H locs ls hl hP hD hS)
theorem x_land (npc : Nat) (hB : xB p s m args meth c E A own cc nL ret mn hs) {x y : Int64} (hd : decode cc pc = .ok (.land, 1)) (hn : pc + 1 = npc)  (kk : xW p l e R s m args below meth c nL E B A k n Q ws npc lv (.long (x &&& y) :: rest)) : xW p l e R s m args below meth c nL E B A k n Q ws pc lv (.long y :: .long x :: rest) := fun H locs ls hl hP hD hS => by
  subst hn
  exact lv_land hB.qx hB.qb hd (kk H locs ls hl hP hD hS)
theorem x_lor (npc : Nat) (hB : xB p s m args meth c E A own cc nL ret mn hs) {x y : Int64} (hd : decode cc pc = .ok (.lor, 1)) (hn : pc + 1 = npc)  (kk : xW p l e R s m args below meth c nL E B A k n Q ws npc lv (.long (x ||| y) :: rest)) : xW p l e R s m args below meth c nL E B A k n Q ws pc lv (.long y :: .long x :: rest) := fun H locs ls hl hP hD hS => by
  subst hn
  exact lv_lor hB.qx hB.qb hd (kk H locs ls hl hP hD hS)
theorem x_lxor (npc : Nat) (hB : xB p s m args meth c E A own cc nL ret mn hs) {x y : Int64} (hd : decode cc pc = .ok (.lxor, 1)) (hn : pc + 1 = npc)  (kk : xW p l e R s m args below meth c nL E B A k n Q ws npc lv (.long (x ^^^ y) :: rest)) : xW p l e R s m args below meth c nL E B A k n Q ws pc lv (.long y :: .long x :: rest) := fun H locs ls hl hP hD hS => by
  subst hn
  exact lv_lxor hB.qx hB.qb hd (kk H locs ls hl hP hD hS)
theorem x_ishl (npc : Nat) (hB : xB p s m args meth c E A own cc nL ret mn hs) {x y : Int32} (hd : decode cc pc = .ok (.ishl, 1)) (hn : pc + 1 = npc)  (kk : xW p l e R s m args below meth c nL E B A k n Q ws npc lv (.int (x <<< (y &&& 31)) :: rest)) : xW p l e R s m args below meth c nL E B A k n Q ws pc lv (.int y :: .int x :: rest) := fun H locs ls hl hP hD hS => by
  subst hn
  exact lv_ishl hB.qx hB.qb hd (kk H locs ls hl hP hD hS)
theorem x_ishr (npc : Nat) (hB : xB p s m args meth c E A own cc nL ret mn hs) {x y : Int32} (hd : decode cc pc = .ok (.ishr, 1)) (hn : pc + 1 = npc)  (kk : xW p l e R s m args below meth c nL E B A k n Q ws npc lv (.int (x >>> (y &&& 31)) :: rest)) : xW p l e R s m args below meth c nL E B A k n Q ws pc lv (.int y :: .int x :: rest) := fun H locs ls hl hP hD hS => by
  subst hn
  exact lv_ishr hB.qx hB.qb hd (kk H locs ls hl hP hD hS)
theorem x_iushr (npc : Nat) (hB : xB p s m args meth c E A own cc nL ret mn hs) {x y v : Int32} (hd : decode cc pc = .ok (.iushr, 1)) (hn : pc + 1 = npc) (hv : (x.toUInt32 >>> (y.toUInt32 &&& Int32.toUInt32 31)).toInt32 = v) (kk : xW p l e R s m args below meth c nL E B A k n Q ws npc lv (.int v :: rest)) : xW p l e R s m args below meth c nL E B A k n Q ws pc lv (.int y :: .int x :: rest) := fun H locs ls hl hP hD hS => by
  subst hn
  exact lv_iushr hB.qx hB.qb hd hv (kk H locs ls hl hP hD hS)
theorem x_lushr (npc : Nat) (hB : xB p s m args meth c E A own cc nL ret mn hs) {x v : Int64} {y : Int32} (hd : decode cc pc = .ok (.lushr, 1)) (hn : pc + 1 = npc) (hv : (x.toUInt64 >>> (y.toInt64.toUInt64 &&& Int64.toUInt64 63)).toInt64 = v) (kk : xW p l e R s m args below meth c nL E B A k n Q ws npc lv (.long v :: rest)) : xW p l e R s m args below meth c nL E B A k n Q ws pc lv (.int y :: .long x :: rest) := fun H locs ls hl hP hD hS => by
  subst hn
  exact lv_lushr hB.qx hB.qb hd hv (kk H locs ls hl hP hD hS)
theorem x_lshl (npc : Nat) (hB : xB p s m args meth c E A own cc nL ret mn hs) {x v : Int64} {y : Int32} (hd : decode cc pc = .ok (.lshl, 1)) (hn : pc + 1 = npc) (hv : x <<< (y.toInt64 &&& 63) = v) (kk : xW p l e R s m args below meth c nL E B A k n Q ws npc lv (.long v :: rest)) : xW p l e R s m args below meth c nL E B A k n Q ws pc lv (.int y :: .long x :: rest) := fun H locs ls hl hP hD hS => by
  subst hn
  exact lv_lshl hB.qx hB.qb hd hv (kk H locs ls hl hP hD hS)
theorem x_i2l (npc : Nat) (hB : xB p s m args meth c E A own cc nL ret mn hs) {x : Int32} {v : Int64} (hd : decode cc pc = .ok (.i2l, 1)) (hn : pc + 1 = npc) (hv : x.toInt64 = v) (kk : xW p l e R s m args below meth c nL E B A k n Q ws npc lv (.long v :: rest)) : xW p l e R s m args below meth c nL E B A k n Q ws pc lv (.int x :: rest) := fun H locs ls hl hP hD hS => by
  subst hn
  exact lv_i2l hB.qx hB.qb hd hv (kk H locs ls hl hP hD hS)
theorem x_l2i (npc : Nat) (hB : xB p s m args meth c E A own cc nL ret mn hs) {x : Int64} {v : Int32} (hd : decode cc pc = .ok (.l2i, 1)) (hn : pc + 1 = npc) (hv : x.toInt32 = v) (kk : xW p l e R s m args below meth c nL E B A k n Q ws npc lv (.int v :: rest)) : xW p l e R s m args below meth c nL E B A k n Q ws pc lv (.long x :: rest) := fun H locs ls hl hP hD hS => by
  subst hn
  exact lv_l2i hB.qx hB.qb hd hv (kk H locs ls hl hP hD hS)
theorem x_i2b (npc : Nat) (hB : xB p s m args meth c E A own cc nL ret mn hs) {x v : Int32} (hd : decode cc pc = .ok (.i2b, 1)) (hn : pc + 1 = npc) (hv : x.toInt8.toInt32 = v) (kk : xW p l e R s m args below meth c nL E B A k n Q ws npc lv (.int v :: rest)) : xW p l e R s m args below meth c nL E B A k n Q ws pc lv (.int x :: rest) := fun H locs ls hl hP hD hS => by
  subst hn
  exact lv_i2b hB.qx hB.qb hd hv (kk H locs ls hl hP hD hS)
theorem x_dup (npc : Nat) (hB : xB p s m args meth c E A own cc nL ret mn hs) {va : Value} (hd : decode cc pc = .ok (.dup, 1)) (hn : pc + 1 = npc) (h1 : va.category = 1) (kk : xW p l e R s m args below meth c nL E B A k n Q ws npc lv (va :: va :: rest)) : xW p l e R s m args below meth c nL E B A k n Q ws pc lv (va :: rest) := fun H locs ls hl hP hD hS => by
  subst hn
  exact lv_dup hB.qx hB.qb hd h1 (kk H locs ls hl hP hD hS)
theorem x_pop (npc : Nat) (hB : xB p s m args meth c E A own cc nL ret mn hs) {va : Value} (hd : decode cc pc = .ok (.pop, 1)) (hn : pc + 1 = npc) (h1 : va.category = 1) (kk : xW p l e R s m args below meth c nL E B A k n Q ws npc lv (rest)) : xW p l e R s m args below meth c nL E B A k n Q ws pc lv (va :: rest) := fun H locs ls hl hP hD hS => by
  subst hn
  exact lv_pop hB.qx hB.qb hd h1 (kk H locs ls hl hP hD hS)
theorem x_dup_x1 (npc : Nat) (hB : xB p s m args meth c E A own cc nL ret mn hs) {va vb : Value} (hd : decode cc pc = .ok (.dup_x1, 1)) (hn : pc + 1 = npc) (h1 : va.category = 1) (h2 : vb.category = 1) (kk : xW p l e R s m args below meth c nL E B A k n Q ws npc lv (va :: vb :: va :: rest)) : xW p l e R s m args below meth c nL E B A k n Q ws pc lv (va :: vb :: rest) := fun H locs ls hl hP hD hS => by
  subst hn
  exact lv_dup_x1 hB.qx hB.qb hd h1 h2 (kk H locs ls hl hP hD hS)
theorem x_dup_x2 (npc : Nat) (hB : xB p s m args meth c E A own cc nL ret mn hs) {va vb vc : Value} (hd : decode cc pc = .ok (.dup_x2, 1)) (hn : pc + 1 = npc) (h1 : va.category = 1) (h2 : vb.category = 1) (h3 : vc.category = 1) (kk : xW p l e R s m args below meth c nL E B A k n Q ws npc lv (va :: vb :: vc :: va :: rest)) : xW p l e R s m args below meth c nL E B A k n Q ws pc lv (va :: vb :: vc :: rest) := fun H locs ls hl hP hD hS => by
  subst hn
  exact lv_dup_x2 hB.qx hB.qb hd h1 h2 h3 (kk H locs ls hl hP hD hS)
theorem x_dup2 (npc : Nat) (hB : xB p s m args meth c E A own cc nL ret mn hs) {va vb : Value} (hd : decode cc pc = .ok (.dup2, 1)) (hn : pc + 1 = npc) (h1 : va.category = 1) (h2 : vb.category = 1) (kk : xW p l e R s m args below meth c nL E B A k n Q ws npc lv (va :: vb :: va :: vb :: rest)) : xW p l e R s m args below meth c nL E B A k n Q ws pc lv (va :: vb :: rest) := fun H locs ls hl hP hD hS => by
  subst hn
  exact lv_dup2_11 hB.qx hB.qb hd h1 h2 (kk H locs ls hl hP hD hS)
theorem x_dup2L (npc : Nat) (hB : xB p s m args meth c E A own cc nL ret mn hs) {va : Value} (hd : decode cc pc = .ok (.dup2, 1)) (hn : pc + 1 = npc) (h1 : va.category = 2) (kk : xW p l e R s m args below meth c nL E B A k n Q ws npc lv (va :: va :: rest)) : xW p l e R s m args below meth c nL E B A k n Q ws pc lv (va :: rest) := fun H locs ls hl hP hD hS => by
  subst hn
  exact lv_dup2_2 hB.qx hB.qb hd h1 (kk H locs ls hl hP hD hS)
theorem x_pop2L (npc : Nat) (hB : xB p s m args meth c E A own cc nL ret mn hs) {va : Value} (hd : decode cc pc = .ok (.pop2, 1)) (hn : pc + 1 = npc) (h1 : va.category = 2) (kk : xW p l e R s m args below meth c nL E B A k n Q ws npc lv (rest)) : xW p l e R s m args below meth c nL E B A k n Q ws pc lv (va :: rest) := fun H locs ls hl hP hD hS => by
  subst hn
  exact lv_pop2_2 hB.qx hB.qb hd h1 (kk H locs ls hl hP hD hS)
theorem x_if_eq (tgt npc : Nat) (hB : xB p s m args meth c E A own cc nL ret mn hs) {x : Int32} {off : Int} (hd : decode cc pc = .ok (.ifCond .eq off, 3)) (ht : (pc : Int) + off = (tgt : Int)) (hn : pc + 3 = npc) (kt : x = 0 → xW p l e R s m args below meth c nL E B A k n Q ws tgt lv rest) (kf : ¬ x = 0 → xW p l e R s m args below meth c nL E B A k n Q ws npc lv rest) : xW p l e R s m args below meth c nL E B A k n Q ws pc lv (.int x :: rest) := fun H locs ls hl hP hD hS => by
  subst hn
  exact lv_if_eq hB.qx hB.qb hd ht (fun h => kt h H locs ls hl hP hD hS) (fun h => kf h H locs ls hl hP hD hS)
theorem x_icmp_eq (tgt npc : Nat) (hB : xB p s m args meth c E A own cc nL ret mn hs) {x y : Int32} {off : Int} (hd : decode cc pc = .ok (.if_icmp .eq off, 3)) (ht : (pc : Int) + off = (tgt : Int)) (hn : pc + 3 = npc) (kt : x = y → xW p l e R s m args below meth c nL E B A k n Q ws tgt lv rest) (kf : ¬ x = y → xW p l e R s m args below meth c nL E B A k n Q ws npc lv rest) : xW p l e R s m args below meth c nL E B A k n Q ws pc lv (.int y :: .int x :: rest) := fun H locs ls hl hP hD hS => by
  subst hn
  exact lv_icmp_eq hB.qx hB.qb hd ht (fun h => kt h H locs ls hl hP hD hS) (fun h => kf h H locs ls hl hP hD hS)
theorem x_if_ne (tgt npc : Nat) (hB : xB p s m args meth c E A own cc nL ret mn hs) {x : Int32} {off : Int} (hd : decode cc pc = .ok (.ifCond .ne off, 3)) (ht : (pc : Int) + off = (tgt : Int)) (hn : pc + 3 = npc) (kt : ¬ x = 0 → xW p l e R s m args below meth c nL E B A k n Q ws tgt lv rest) (kf : x = 0 → xW p l e R s m args below meth c nL E B A k n Q ws npc lv rest) : xW p l e R s m args below meth c nL E B A k n Q ws pc lv (.int x :: rest) := fun H locs ls hl hP hD hS => by
  subst hn
  exact lv_if_ne hB.qx hB.qb hd ht (fun h => kt h H locs ls hl hP hD hS) (fun h => kf h H locs ls hl hP hD hS)
theorem x_icmp_ne (tgt npc : Nat) (hB : xB p s m args meth c E A own cc nL ret mn hs) {x y : Int32} {off : Int} (hd : decode cc pc = .ok (.if_icmp .ne off, 3)) (ht : (pc : Int) + off = (tgt : Int)) (hn : pc + 3 = npc) (kt : ¬ x = y → xW p l e R s m args below meth c nL E B A k n Q ws tgt lv rest) (kf : x = y → xW p l e R s m args below meth c nL E B A k n Q ws npc lv rest) : xW p l e R s m args below meth c nL E B A k n Q ws pc lv (.int y :: .int x :: rest) := fun H locs ls hl hP hD hS => by
  subst hn
  exact lv_icmp_ne hB.qx hB.qb hd ht (fun h => kt h H locs ls hl hP hD hS) (fun h => kf h H locs ls hl hP hD hS)
theorem x_if_lt (tgt npc : Nat) (hB : xB p s m args meth c E A own cc nL ret mn hs) {x : Int32} {off : Int} (hd : decode cc pc = .ok (.ifCond .lt off, 3)) (ht : (pc : Int) + off = (tgt : Int)) (hn : pc + 3 = npc) (kt : x < 0 → xW p l e R s m args below meth c nL E B A k n Q ws tgt lv rest) (kf : ¬ x < 0 → xW p l e R s m args below meth c nL E B A k n Q ws npc lv rest) : xW p l e R s m args below meth c nL E B A k n Q ws pc lv (.int x :: rest) := fun H locs ls hl hP hD hS => by
  subst hn
  exact lv_if_lt hB.qx hB.qb hd ht (fun h => kt h H locs ls hl hP hD hS) (fun h => kf h H locs ls hl hP hD hS)
theorem x_icmp_lt (tgt npc : Nat) (hB : xB p s m args meth c E A own cc nL ret mn hs) {x y : Int32} {off : Int} (hd : decode cc pc = .ok (.if_icmp .lt off, 3)) (ht : (pc : Int) + off = (tgt : Int)) (hn : pc + 3 = npc) (kt : x < y → xW p l e R s m args below meth c nL E B A k n Q ws tgt lv rest) (kf : ¬ x < y → xW p l e R s m args below meth c nL E B A k n Q ws npc lv rest) : xW p l e R s m args below meth c nL E B A k n Q ws pc lv (.int y :: .int x :: rest) := fun H locs ls hl hP hD hS => by
  subst hn
  exact lv_icmp_lt hB.qx hB.qb hd ht (fun h => kt h H locs ls hl hP hD hS) (fun h => kf h H locs ls hl hP hD hS)
theorem x_if_ge (tgt npc : Nat) (hB : xB p s m args meth c E A own cc nL ret mn hs) {x : Int32} {off : Int} (hd : decode cc pc = .ok (.ifCond .ge off, 3)) (ht : (pc : Int) + off = (tgt : Int)) (hn : pc + 3 = npc) (kt : 0 ≤ x → xW p l e R s m args below meth c nL E B A k n Q ws tgt lv rest) (kf : ¬ 0 ≤ x → xW p l e R s m args below meth c nL E B A k n Q ws npc lv rest) : xW p l e R s m args below meth c nL E B A k n Q ws pc lv (.int x :: rest) := fun H locs ls hl hP hD hS => by
  subst hn
  exact lv_if_ge hB.qx hB.qb hd ht (fun h => kt h H locs ls hl hP hD hS) (fun h => kf h H locs ls hl hP hD hS)
theorem x_icmp_ge (tgt npc : Nat) (hB : xB p s m args meth c E A own cc nL ret mn hs) {x y : Int32} {off : Int} (hd : decode cc pc = .ok (.if_icmp .ge off, 3)) (ht : (pc : Int) + off = (tgt : Int)) (hn : pc + 3 = npc) (kt : y ≤ x → xW p l e R s m args below meth c nL E B A k n Q ws tgt lv rest) (kf : ¬ y ≤ x → xW p l e R s m args below meth c nL E B A k n Q ws npc lv rest) : xW p l e R s m args below meth c nL E B A k n Q ws pc lv (.int y :: .int x :: rest) := fun H locs ls hl hP hD hS => by
  subst hn
  exact lv_icmp_ge hB.qx hB.qb hd ht (fun h => kt h H locs ls hl hP hD hS) (fun h => kf h H locs ls hl hP hD hS)
theorem x_if_gt (tgt npc : Nat) (hB : xB p s m args meth c E A own cc nL ret mn hs) {x : Int32} {off : Int} (hd : decode cc pc = .ok (.ifCond .gt off, 3)) (ht : (pc : Int) + off = (tgt : Int)) (hn : pc + 3 = npc) (kt : 0 < x → xW p l e R s m args below meth c nL E B A k n Q ws tgt lv rest) (kf : ¬ 0 < x → xW p l e R s m args below meth c nL E B A k n Q ws npc lv rest) : xW p l e R s m args below meth c nL E B A k n Q ws pc lv (.int x :: rest) := fun H locs ls hl hP hD hS => by
  subst hn
  exact lv_if_gt hB.qx hB.qb hd ht (fun h => kt h H locs ls hl hP hD hS) (fun h => kf h H locs ls hl hP hD hS)
theorem x_icmp_gt (tgt npc : Nat) (hB : xB p s m args meth c E A own cc nL ret mn hs) {x y : Int32} {off : Int} (hd : decode cc pc = .ok (.if_icmp .gt off, 3)) (ht : (pc : Int) + off = (tgt : Int)) (hn : pc + 3 = npc) (kt : y < x → xW p l e R s m args below meth c nL E B A k n Q ws tgt lv rest) (kf : ¬ y < x → xW p l e R s m args below meth c nL E B A k n Q ws npc lv rest) : xW p l e R s m args below meth c nL E B A k n Q ws pc lv (.int y :: .int x :: rest) := fun H locs ls hl hP hD hS => by
  subst hn
  exact lv_icmp_gt hB.qx hB.qb hd ht (fun h => kt h H locs ls hl hP hD hS) (fun h => kf h H locs ls hl hP hD hS)
theorem x_if_le (tgt npc : Nat) (hB : xB p s m args meth c E A own cc nL ret mn hs) {x : Int32} {off : Int} (hd : decode cc pc = .ok (.ifCond .le off, 3)) (ht : (pc : Int) + off = (tgt : Int)) (hn : pc + 3 = npc) (kt : x ≤ 0 → xW p l e R s m args below meth c nL E B A k n Q ws tgt lv rest) (kf : ¬ x ≤ 0 → xW p l e R s m args below meth c nL E B A k n Q ws npc lv rest) : xW p l e R s m args below meth c nL E B A k n Q ws pc lv (.int x :: rest) := fun H locs ls hl hP hD hS => by
  subst hn
  exact lv_if_le hB.qx hB.qb hd ht (fun h => kt h H locs ls hl hP hD hS) (fun h => kf h H locs ls hl hP hD hS)
theorem x_icmp_le (tgt npc : Nat) (hB : xB p s m args meth c E A own cc nL ret mn hs) {x y : Int32} {off : Int} (hd : decode cc pc = .ok (.if_icmp .le off, 3)) (ht : (pc : Int) + off = (tgt : Int)) (hn : pc + 3 = npc) (kt : x ≤ y → xW p l e R s m args below meth c nL E B A k n Q ws tgt lv rest) (kf : ¬ x ≤ y → xW p l e R s m args below meth c nL E B A k n Q ws npc lv rest) : xW p l e R s m args below meth c nL E B A k n Q ws pc lv (.int y :: .int x :: rest) := fun H locs ls hl hP hD hS => by
  subst hn
  exact lv_icmp_le hB.qx hB.qb hd ht (fun h => kt h H locs ls hl hP hD hS) (fun h => kf h H locs ls hl hP hD hS)
theorem x_goto (tgt : Nat) (hB : xB p s m args meth c E A own cc nL ret mn hs) {off : Int} (hd : decode cc pc = .ok (.goto off, 3)) (ht : (pc : Int) + off = (tgt : Int)) (kk : xW p l e R s m args below meth c nL E B A k n Q ws tgt lv st) : xW p l e R s m args below meth c nL E B A k n Q ws pc lv st := fun H locs ls hl hP hD hS => lv_goto hB.qx hB.qb hd ht (kk H locs ls hl hP hD hS)
theorem x_lcmp (npc : Nat) (hB : xB p s m args meth c E A own cc nL ret mn hs) {x y : Int64} (hd : decode cc pc = .ok (.lcmp, 1)) (hn : pc + 1 = npc) (kk : xW p l e R s m args below meth c nL E B A k n Q ws npc lv (.int (lg_cmp x y) :: rest)) : xW p l e R s m args below meth c nL E B A k n Q ws pc lv (.long y :: .long x :: rest) := fun H locs ls hl hP hD hS => by
  subst hn
  exact W.lcmp hB.qx hB.qb hd (kk H locs ls hl hP hD hS)
theorem x_top {v v' : Value} (h : v = v') (kk : xW p l e R s m args below meth c nL E B A k n Q ws pc lv (v' :: rest)) : xW p l e R s m args below meth c nL E B A k n Q ws pc lv (v :: rest) := h ▸ kk
theorem x_st {st' : List Value} (h : st = st') (kk : xW p l e R s m args below meth c nL E B A k n Q ws pc lv st') : xW p l e R s m args below meth c nL E B A k n Q ws pc lv st := h ▸ kk
theorem x_lv {lv' : List (Nat × Value)} (ks : List Nat) (h : lv_pick lv ks = lv') (kk : xW p l e R s m args below meth c nL E B A k n Q ws pc lv' st) : xW p l e R s m args below meth c nL E B A k n Q ws pc lv st := fun H locs ls hl hP hD hS => kk H locs ls (lv_sub hl ks h) hP hD hS
theorem x_ws {ws' : va_W} (h : ws = ws') (kk : xW p l e R s m args below meth c nL E B A k n Q ws' pc lv st) : xW p l e R s m args below meth c nL E B A k n Q ws pc lv st := h ▸ kk
theorem x_lve {lv' : List (Nat × Value)} (h : lv = lv') (kk : xW p l e R s m args below meth c nL E B A k n Q ws pc lv' st) : xW p l e R s m args below meth c nL E B A k n Q ws pc lv st := h ▸ kk
theorem x_wid {k' n' : Nat} (h1 : k ≤ k') (h2 : n ≤ n') (kk : xW p l e R s m args below meth c nL E B A k' n' Q ws pc lv st) : xW p l e R s m args below meth c nL E B A k n Q ws pc lv st := fun H locs ls hl hP hD hS => W.widen h1 h2 (kk H locs ls hl hP hD hS)
theorem x_tabOut (tgt : Nat) (hB : xB p s m args meth c E A own cc nL ret mn hs) {dflt lo hi : Int} {offs : Array Int} {len : Nat} {x : Int32} (hd : decode cc pc = .ok (.tableswitch dflt lo hi offs, len)) (h : x.toInt < lo ∨ hi < x.toInt) (ht : (pc : Int) + dflt = (tgt : Int)) (kk : xW p l e R s m args below meth c nL E B A k n Q ws tgt lv rest) : xW p l e R s m args below meth c nL E B A k n Q ws pc lv (.int x :: rest) := fun H locs ls hl hP hD hS => lv_tableOut hB.qx hB.qb hd h ht (kk H locs ls hl hP hD hS)
theorem x_tabIn (tgt : Nat) (hB : xB p s m args meth c E A own cc nL ret mn hs) {dflt lo hi off : Int} {offs : Array Int} {len : Nat} {x : Int32} (hd : decode cc pc = .ok (.tableswitch dflt lo hi offs, len)) (h1 : ¬ x.toInt < lo) (h2 : ¬ hi < x.toInt) (ho : offs[(x.toInt - lo).toNat]? = some off) (ht : (pc : Int) + off = (tgt : Int)) (kk : xW p l e R s m args below meth c nL E B A k n Q ws tgt lv rest) : xW p l e R s m args below meth c nL E B A k n Q ws pc lv (.int x :: rest) := fun H locs ls hl hP hD hS => lv_tableIn hB.qx hB.qb hd h1 h2 ho ht (kk H locs ls hl hP hD hS)
theorem x_lookup (tgt : Nat) (hB : xB p s m args meth c E A own cc nL ret mn hs) {dflt off : Int} {ps : Array (Int × Int)} {len : Nat} {x : Int32} (hd : decode cc pc = .ok (.lookupswitch dflt ps, len)) (hp : (ps.toList.zip (ps.toList.drop 1)).all (fun (a, next) => a.1 < next.1) = true) (ho : Op.lookupswitch.offset ps.toList dflt x.toInt = off) (ht : (pc : Int) + off = (tgt : Int)) (kk : xW p l e R s m args below meth c nL E B A k n Q ws tgt lv rest) : xW p l e R s m args below meth c nL E B A k n Q ws pc lv (.int x :: rest) := fun H locs ls hl hP hD hS => lv_lookup hB.qx hB.qb hd hp ho ht (kk H locs ls hl hP hD hS)
theorem x_bald (npc : Nat) (hB : xB p s m args meth c E A own cc nL ret mn hs) (q0 : Nat) {a N j : Nat} {f : Nat → Int32} (he : ws[q0]? = some (a, .inl (E.2 0, N, .inl f))) (hj : j < N) (hN : N < 2147483648) (hd : decode cc pc = .ok (.baload, 1)) (hn : pc + 1 = npc) (kk : xW p l e R s m args below meth c nL E B A k n Q ws npc lv (.int (f j) :: rest)) : xW p l e R s m args below meth c nL E B A k n Q ws pc lv (.int (nI j) :: .ref a :: rest) := fun H locs ls hl hP hD hS => by
  subst hn
  refine va_bald hB.qx hB.qb hB.qk hP q0 0 he rfl (vp_in_nI hj hN) hd ?_
  rw [nI_clamp (Nat.lt_trans hj hN)]
  exact kk H locs ls hl hP hD hS
theorem x_iald (npc : Nat) (hB : xB p s m args meth c E A own cc nL ret mn hs) (q0 : Nat) {a N j : Nat} {f : Nat → Int32} (he : ws[q0]? = some (a, .inl (E.2 1, N, .inl f))) (hj : j < N) (hN : N < 2147483648) (hd : decode cc pc = .ok (.iaload, 1)) (hn : pc + 1 = npc) (kk : xW p l e R s m args below meth c nL E B A k n Q ws npc lv (.int (f j) :: rest)) : xW p l e R s m args below meth c nL E B A k n Q ws pc lv (.int (nI j) :: .ref a :: rest) := fun H locs ls hl hP hD hS => by
  subst hn
  refine va_iald hB.qx hB.qb hB.qk hP q0 1 he rfl (vp_in_nI hj hN) hd ?_
  rw [nI_clamp (Nat.lt_trans hj hN)]
  exact kk H locs ls hl hP hD hS
theorem x_lald (npc : Nat) (hB : xB p s m args meth c E A own cc nL ret mn hs) (q0 : Nat) {a N j : Nat} {f : Nat → Int64} (he : ws[q0]? = some (a, .inl (E.2 2, N, .inr (.inl f)))) (hj : j < N) (hN : N < 2147483648) (hd : decode cc pc = .ok (.laload, 1)) (hn : pc + 1 = npc) (kk : xW p l e R s m args below meth c nL E B A k n Q ws npc lv (.long (f j) :: rest)) : xW p l e R s m args below meth c nL E B A k n Q ws pc lv (.int (nI j) :: .ref a :: rest) := fun H locs ls hl hP hD hS => by
  subst hn
  refine va_lald hB.qx hB.qb hB.qk hP q0 2 he rfl (vp_in_nI hj hN) hd ?_
  rw [nI_clamp (Nat.lt_trans hj hN)]
  exact kk H locs ls hl hP hD hS
theorem x_zald (npc : Nat) (hB : xB p s m args meth c E A own cc nL ret mn hs) (q0 : Nat) {a N j : Nat} {f : Nat → Int32} (he : ws[q0]? = some (a, .inl (E.2 3, N, .inl f))) (hj : j < N) (hN : N < 2147483648) (hd : decode cc pc = .ok (.baload, 1)) (hn : pc + 1 = npc) (kk : xW p l e R s m args below meth c nL E B A k n Q ws npc lv (.int (f j) :: rest)) : xW p l e R s m args below meth c nL E B A k n Q ws pc lv (.int (nI j) :: .ref a :: rest) := fun H locs ls hl hP hD hS => by
  subst hn
  refine va_zald hB.qx hB.qb hB.qk hP q0 3 he rfl (vp_in_nI hj hN) hd ?_
  rw [nI_clamp (Nat.lt_trans hj hN)]
  exact kk H locs ls hl hP hD hS
theorem x_bast (npc : Nat) (hB : xB p s m args meth c E A own cc nL ret mn hs) (q0 : Nat) {a N j : Nat} {f : Nat → Int32} {x x' : Int32} {ws' : va_W} (he : ws[q0]? = some (a, .inl (E.2 0, N, .inl f))) (hj : j < N) (hN : N < 2147483648) (hx : vp_nar .byte x = x') (hw : ws.set q0 (a, .inl (E.2 0, N, .inl (upd f j x'))) = ws') (hd : decode cc pc = .ok (.bastore, 1)) (hn : pc + 1 = npc) (kk : xW p l e R s m args below meth c nL E A A k n Q ws' npc lv rest) : xW p l e R s m args below meth c nL E A A k n Q ws pc lv (.int x :: .int (nI j) :: .ref a :: rest) := fun H locs ls hl hP hD hS => by
  subst hn
  subst hx
  subst hw
  refine va_bast hB.qx hB.qb hB.qk hP hD hS q0 0 he rfl (vp_in_nI hj hN) hd (fun H1 locs1 hP1 hD1 hS1 => ?_)
  rw [nI_clamp (Nat.lt_trans hj hN)] at hP1 hD1
  exact kk H1 locs1 ls hl hP1 hD1 hS1
theorem x_iast (npc : Nat) (hB : xB p s m args meth c E A own cc nL ret mn hs) (q0 : Nat) {a N j : Nat} {f : Nat → Int32} {x x' : Int32} {ws' : va_W} (he : ws[q0]? = some (a, .inl (E.2 1, N, .inl f))) (hj : j < N) (hN : N < 2147483648) (hx : x = x') (hw : ws.set q0 (a, .inl (E.2 1, N, .inl (upd f j x'))) = ws') (hd : decode cc pc = .ok (.iastore, 1)) (hn : pc + 1 = npc) (kk : xW p l e R s m args below meth c nL E A A k n Q ws' npc lv rest) : xW p l e R s m args below meth c nL E A A k n Q ws pc lv (.int x :: .int (nI j) :: .ref a :: rest) := fun H locs ls hl hP hD hS => by
  subst hn
  subst hx
  subst hw
  refine va_iast hB.qx hB.qb hB.qk hP hD hS q0 1 he rfl (vp_in_nI hj hN) hd (fun H1 locs1 hP1 hD1 hS1 => ?_)
  rw [nI_clamp (Nat.lt_trans hj hN)] at hP1 hD1
  exact kk H1 locs1 ls hl hP1 hD1 hS1
theorem x_last (npc : Nat) (hB : xB p s m args meth c E A own cc nL ret mn hs) (q0 : Nat) {a N j : Nat} {f : Nat → Int64} {x x' : Int64} {ws' : va_W} (he : ws[q0]? = some (a, .inl (E.2 2, N, .inr (.inl f)))) (hj : j < N) (hN : N < 2147483648) (hx : x = x') (hw : ws.set q0 (a, .inl (E.2 2, N, .inr (.inl (vp_updL f j x')))) = ws') (hd : decode cc pc = .ok (.lastore, 1)) (hn : pc + 1 = npc) (kk : xW p l e R s m args below meth c nL E A A k n Q ws' npc lv rest) : xW p l e R s m args below meth c nL E A A k n Q ws pc lv (.long x :: .int (nI j) :: .ref a :: rest) := fun H locs ls hl hP hD hS => by
  subst hn
  subst hx
  subst hw
  refine va_last hB.qx hB.qb hB.qk hP hD hS q0 2 he rfl (vp_in_nI hj hN) hd (fun H1 locs1 hP1 hD1 hS1 => ?_)
  rw [nI_clamp (Nat.lt_trans hj hN)] at hP1 hD1
  exact kk H1 locs1 ls hl hP1 hD1 hS1
theorem x_zast (npc : Nat) (hB : xB p s m args meth c E A own cc nL ret mn hs) (q0 : Nat) {a N j : Nat} {f : Nat → Int32} {x x' : Int32} {ws' : va_W} (he : ws[q0]? = some (a, .inl (E.2 3, N, .inl f))) (hj : j < N) (hN : N < 2147483648) (hx : vp_nar .boolean x = x') (hw : ws.set q0 (a, .inl (E.2 3, N, .inl (upd f j x'))) = ws') (hd : decode cc pc = .ok (.bastore, 1)) (hn : pc + 1 = npc) (kk : xW p l e R s m args below meth c nL E A A k n Q ws' npc lv rest) : xW p l e R s m args below meth c nL E A A k n Q ws pc lv (.int x :: .int (nI j) :: .ref a :: rest) := fun H locs ls hl hP hD hS => by
  subst hn
  subst hx
  subst hw
  refine va_zast hB.qx hB.qb hB.qk hP hD hS q0 3 he rfl (vp_in_nI hj hN) hd (fun H1 locs1 hP1 hD1 hS1 => ?_)
  rw [nI_clamp (Nat.lt_trans hj hN)] at hP1 hD1
  exact kk H1 locs1 ls hl hP1 hD1 hS1
def xSame (ref dc n d : String) : Prop := dc = ref ∨ Cond.sameField ref dc n d ∈ xG
def xFg (own : String) (idx ci kf : Nat) : Prop := ∃ (C : String) (T : u_T) (N : Nat) (ref : String), vwCl[ci]? = some (C, T, N) ∧ (∀ w ∈ u_ws C T N, w ∈ xG) ∧ kf < N ∧ Cond.fieldLink own idx ref (T kf).2.1 (T kf).2.2.1 ∈ xG ∧ xSame ref (T kf).1 (T kf).2.1 (T kf).2.2.1
def xFp (own : String) (idx ci kf : Nat) (fin : Bool) (ty : FieldType) : Prop := ∃ (C : String) (T : u_T) (N : Nat) (ref : String) (ty0 : Nat → FieldType), vwCl[ci]? = some (C, T, N) ∧ (∀ w ∈ u_ws C T N, w ∈ xG) ∧ kf < N ∧ Cond.fieldLink own idx ref (T kf).2.1 (T kf).2.2.1 ∈ xG ∧ xSame ref (T kf).1 (T kf).2.1 (T kf).2.2.1 ∧ (∀ k, k < N → parseFieldDescriptor (T k).2.2.1 = some (ty0 k)) ∧ (∀ a, a < N → ∀ b, b < N → a ≠ b → (T a).2.1 ≠ (T b).2.1) ∧ (T kf).2.2.2 = fin ∧ parseFieldDescriptor (T kf).2.2.1 = some ty ∧ (fin = true → (T kf).1 = own)
theorem xSame.f {args : Array Value} {s : State} {ref dc n d : String} (ht : ∀ w ∈ xG, w.before args s = true) (h : xSame ref dc n d) : ∀ x, s.fieldFound? dc n d = some x → s.fieldFound? ref n d = some x := by
  rcases h with rfl | h
  · exact fun _ h => h
  · exact fun x hx => u_same (ht _ h) x hx
theorem x_get (npc : Nat) (hB : xB p s m args meth c E A own cc nL ret mn hs) (q0 : Nat) {idx ci kf a : Nat} {fs : List Value} {v : Value} (hF : xFg own idx ci kf) (he : ws[q0]? = some (a, .inr (ci, fs))) (hv : fs[kf]? = some v) (hd : decode cc pc = .ok (.getfield idx, 3)) (hn : pc + 3 = npc) (kk : xW p l e R s m args below meth c nL E B A k n Q ws npc lv (v :: rest)) : xW p l e R s m args below meth c nL E B A k n Q ws pc lv (.ref a :: rest) := fun H locs ls hl hP hD hS => by
  subst hn
  obtain ⟨C, T, N, ref, h1, h2, h3, h4, h5⟩ := hF
  exact va_get hB.qx hB.qb hB.qt h2 hB.qo hB.qk hP q0 he h1 kf h3 (hB.qt _ h4) (xSame.f hB.qt h5) hv hd (kk H locs ls hl hP hD hS)
theorem x_put (npc : Nat) (hB : xB p s m args meth c E A own cc nL ret mn hs) (q0 : Nat) {idx ci kf a : Nat} {fs : List Value} {v : Value} {ty : FieldType} {ws' : va_W} (hF : xFp own idx ci kf false ty) (he : ws[q0]? = some (a, .inr (ci, fs))) (hv : narrow ty v = v) (hf : fits ty v = true) (hl0 : kf < fs.length) (hw : ws.set q0 (a, .inr (ci, fs.set kf v)) = ws') (hd : decode cc pc = .ok (.putfield idx, 3)) (hn : pc + 3 = npc) (kk : xW p l e R s m args below meth c nL E A A k n Q ws' npc lv rest) : xW p l e R s m args below meth c nL E A A k n Q ws pc lv (v :: .ref a :: rest) := fun H locs ls hl hP hD hS => by
  subst hn
  subst hw
  obtain ⟨C, T, N, ref, ty0, h1, h2, h3, h4, h5, h6, h7, h8, h9, -⟩ := hF
  exact va_put hB.qx hB.qb hB.qt h2 ty0 h6 h7 hB.qo hB.qk hP hD hS q0 he h1 kf h3 (hB.qt _ h4) (xSame.f hB.qt h5) h8 h9 hv hf hl0 hd (fun H1 locs1 hP1 hD1 hS1 => kk H1 locs1 ls hl hP1 hD1 hS1)
theorem x_putF (npc : Nat) (hB : xB p s m args meth c E A own cc nL ret "<init>" hs) (q0 : Nat) {idx ci kf a : Nat} {fs : List Value} {v : Value} {ty : FieldType} {ws' : va_W} (hF : xFp own idx ci kf true ty) (he : ws[q0]? = some (a, .inr (ci, fs))) (hv : narrow ty v = v) (hf : fits ty v = true) (hl0 : kf < fs.length) (hw : ws.set q0 (a, .inr (ci, fs.set kf v)) = ws') (hd : decode cc pc = .ok (.putfield idx, 3)) (hn : pc + 3 = npc) (kk : xW p l e R s m args below meth c nL E A A k n Q ws' npc lv rest) : xW p l e R s m args below meth c nL E A A k n Q ws pc lv (v :: .ref a :: rest) := fun H locs ls hl hP hD hS => by
  subst hn
  subst hw
  obtain ⟨C, T, N, ref, ty0, h1, h2, h3, h4, h5, h6, h7, h8, h9, h10⟩ := hF
  exact va_putF hB.qx hB.qb hB.qt h2 ty0 h6 h7 hB.qo hB.qk hP hD hS q0 he h1 kf h3 (hB.qt _ h4) (xSame.f hB.qt h5) h8 hB.qm (h10 rfl) h9 hv hf hl0 hd (fun H1 locs1 hP1 hD1 hS1 => kk H1 locs1 ls hl hP1 hD1 hS1)
def xCn (own : String) (idx ci N : Nat) (fs : List Value) : Prop := ∃ (C : String) (T : u_T) (ty0 : Nat → FieldType), vwCl[ci]? = some (C, T, N) ∧ (∀ w ∈ u_ws C T N, w ∈ xG) ∧ (∀ k, k < N → parseFieldDescriptor (T k).2.2.1 = some (ty0 k)) ∧ Cond.classLink own idx C ∈ xG ∧ Cond.instantiable C N ∈ xG ∧ Cond.initialized C ∈ xG ∧ ∀ j, j < N → defaultValue (ty0 j) = vp_V fs j
theorem x_new (npc : Nat) (hB : xB p s m args meth c E A own cc nL ret mn hs) {idx ci N k' n' : Nat} {fs : List Value} (hC : xCn own idx ci N fs) (hc : k + 1 ≤ R.cells) (hs' : n + N ≤ R.slots) (hk : k + 1 = k') (hn' : n + N = n') (hd : decode cc pc = .ok (.new idx, 3)) (hn : pc + 3 = npc) (kk : ∀ q : Nat, xW p l e R s m args below meth c nL E A A k' n' Q (ws ++ [(q, .inr (ci, fs))]) npc lv (.ref q :: rest)) : xW p l e R s m args below meth c nL E A A k n Q ws pc lv rest := fun H locs ls hl hP hD hS => by
  subst hn
  subst hk
  subst hn'
  obtain ⟨C, T, ty0, h1, h2, h3, h4, h5, h6, h7⟩ := hC
  exact va_new hB.qx hB.qb hB.qt h2 ty0 h3 hB.qo (hB.qt _ h4) (hB.qt _ h5) (hB.qt _ h6) hB.qk hP hD hS hB.qa h1 h7 hc hs' hd (fun q H1 hP1 hD1 hS1 => kk q H1 locs ls hl hP1 hD1 hS1)
theorem x_newB (npc : Nat) (hB : xB p s m args meth c E A own cc nL ret mn hs) {N k' n' : Nat} (hw : Cond.arrayClass .byte ∈ xG) (hN : N < 65536) (hc : k + 1 ≤ R.cells) (hs' : n + N ≤ R.slots) (hk : k + 1 = k') (hn' : n + N = n') (hd : decode cc pc = .ok (.newarray .byte, 2)) (hn : pc + 2 = npc) (kk : ∀ q : Nat, xW p l e R s m args below meth c nL E A A k' n' Q (ws ++ [(q, .inl (E.2 0, N, .inl (fun _ => 0)))]) npc lv (.ref q :: rest)) : xW p l e R s m args below meth c nL E A A k n Q ws pc lv (.int (nI N) :: rest) := fun H locs ls hl hP hD hS => by
  subst hn
  subst hk
  subst hn'
  refine va_newa (a0 := (N, .inl (fun _ => 0))) hB.qx hB.qb (atype := .byte) (hB.qt _ hw) (ty := .byte) rfl hB.qk hP hD hS hB.qa (fun cA => rfl) (nI_pos (by omega)) (nI_clamp (by omega)) (x_cb hN (by decide)) hc hs' hd (fun q cA H1 hK1 hP1 hD1 hS1 => ?_)
  have e1 : s.vm.findClass ("[" ++ (FieldType.byte).toString) = some cA := (hK1.2 4 (cA, .byte) rfl).2
  have e2 : s.vm.findClass ("[" ++ (FieldType.byte).toString) = some (E.2 0) := (hB.qk.2 0 (E.2 0, .byte) rfl).2
  have e3 : cA = E.2 0 := Option.some.inj (e1.symm.trans e2)
  subst e3
  exact kk q H1 locs ls hl hP1 hD1 hS1
theorem x_newI (npc : Nat) (hB : xB p s m args meth c E A own cc nL ret mn hs) {N k' n' : Nat} (hw : Cond.arrayClass .int ∈ xG) (hN : N < 65536) (hc : k + 1 ≤ R.cells) (hs' : n + N ≤ R.slots) (hk : k + 1 = k') (hn' : n + N = n') (hd : decode cc pc = .ok (.newarray .int, 2)) (hn : pc + 2 = npc) (kk : ∀ q : Nat, xW p l e R s m args below meth c nL E A A k' n' Q (ws ++ [(q, .inl (E.2 1, N, .inl (fun _ => 0)))]) npc lv (.ref q :: rest)) : xW p l e R s m args below meth c nL E A A k n Q ws pc lv (.int (nI N) :: rest) := fun H locs ls hl hP hD hS => by
  subst hn
  subst hk
  subst hn'
  refine va_newa (a0 := (N, .inl (fun _ => 0))) hB.qx hB.qb (atype := .int) (hB.qt _ hw) (ty := .int) rfl hB.qk hP hD hS hB.qa (fun cA => rfl) (nI_pos (by omega)) (nI_clamp (by omega)) (x_cb hN (by decide)) hc hs' hd (fun q cA H1 hK1 hP1 hD1 hS1 => ?_)
  have e1 : s.vm.findClass ("[" ++ (FieldType.int).toString) = some cA := (hK1.2 4 (cA, .int) rfl).2
  have e2 : s.vm.findClass ("[" ++ (FieldType.int).toString) = some (E.2 1) := (hB.qk.2 1 (E.2 1, .int) rfl).2
  have e3 : cA = E.2 1 := Option.some.inj (e1.symm.trans e2)
  subst e3
  exact kk q H1 locs ls hl hP1 hD1 hS1
theorem x_newJ (npc : Nat) (hB : xB p s m args meth c E A own cc nL ret mn hs) {N k' n' : Nat} (hw : Cond.arrayClass .long ∈ xG) (hN : N < 65536) (hc : k + 1 ≤ R.cells) (hs' : n + N ≤ R.slots) (hk : k + 1 = k') (hn' : n + N = n') (hd : decode cc pc = .ok (.newarray .long, 2)) (hn : pc + 2 = npc) (kk : ∀ q : Nat, xW p l e R s m args below meth c nL E A A k' n' Q (ws ++ [(q, .inl (E.2 2, N, .inr (.inl (fun _ => 0))))]) npc lv (.ref q :: rest)) : xW p l e R s m args below meth c nL E A A k n Q ws pc lv (.int (nI N) :: rest) := fun H locs ls hl hP hD hS => by
  subst hn
  subst hk
  subst hn'
  refine va_newa (a0 := (N, .inr (.inl (fun _ => 0)))) hB.qx hB.qb (atype := .long) (hB.qt _ hw) (ty := .long) rfl hB.qk hP hD hS hB.qa (fun cA => rfl) (nI_pos (by omega)) (nI_clamp (by omega)) (x_cb hN (by decide)) hc hs' hd (fun q cA H1 hK1 hP1 hD1 hS1 => ?_)
  have e1 : s.vm.findClass ("[" ++ (FieldType.long).toString) = some cA := (hK1.2 4 (cA, .long) rfl).2
  have e2 : s.vm.findClass ("[" ++ (FieldType.long).toString) = some (E.2 2) := (hB.qk.2 2 (E.2 2, .long) rfl).2
  have e3 : cA = E.2 2 := Option.some.inj (e1.symm.trans e2)
  subst e3
  exact kk q H1 locs ls hl hP1 hD1 hS1
theorem x_newZ (npc : Nat) (hB : xB p s m args meth c E A own cc nL ret mn hs) {N k' n' : Nat} (hw : Cond.arrayClass .boolean ∈ xG) (hN : N < 65536) (hc : k + 1 ≤ R.cells) (hs' : n + N ≤ R.slots) (hk : k + 1 = k') (hn' : n + N = n') (hd : decode cc pc = .ok (.newarray .boolean, 2)) (hn : pc + 2 = npc) (kk : ∀ q : Nat, xW p l e R s m args below meth c nL E A A k' n' Q (ws ++ [(q, .inl (E.2 3, N, .inl (fun _ => 0)))]) npc lv (.ref q :: rest)) : xW p l e R s m args below meth c nL E A A k n Q ws pc lv (.int (nI N) :: rest) := fun H locs ls hl hP hD hS => by
  subst hn
  subst hk
  subst hn'
  refine va_newa (a0 := (N, .inl (fun _ => 0))) hB.qx hB.qb (atype := .boolean) (hB.qt _ hw) (ty := .boolean) rfl hB.qk hP hD hS hB.qa (fun cA => rfl) (nI_pos (by omega)) (nI_clamp (by omega)) (x_cb hN (by decide)) hc hs' hd (fun q cA H1 hK1 hP1 hD1 hS1 => ?_)
  have e1 : s.vm.findClass ("[" ++ (FieldType.boolean).toString) = some cA := (hK1.2 4 (cA, .boolean) rfl).2
  have e2 : s.vm.findClass ("[" ++ (FieldType.boolean).toString) = some (E.2 3) := (hB.qk.2 3 (E.2 3, .boolean) rfl).2
  have e3 : cA = E.2 3 := Option.some.inj (e1.symm.trans e2)
  subst e3
  exact kk q H1 locs ls hl hP1 hD1 hS1
theorem x_fm {α β : Type} {f : α → Option β} : ∀ {is : List α} {w : List β}, is.map f = w.map some → is.filterMap f = w
  | [], [], _ => rfl
  | [], _ :: _, h => by simp at h
  | _ :: _, [], h => by simp at h
  | i :: is, b :: w, h => by
    simp only [List.map_cons, List.cons.injEq] at h
    rw [List.filterMap_cons, h.1]
    simp [x_fm h.2]
/-- what a code word says of its method -/
def xHd (hd : Cond) (y : MethodName) (maxL : Nat) : Prop := ∀ (args : Array Value) (s : State), hd.before args s = true → ∃ mk methY cY, s.methodNamed? y = some mk ∧ s.vm.method? mk = some methY ∧ methY.code = some cY ∧ cY.maxLocals = maxL ∧ parseMethodDescriptor y.desc = some methY.sig
theorem xHd_code {y : MethodName} {b : ByteArray} {n : Nat} {r : Option FieldType} : xHd (.code y b n r) y n := by
  intro args s h
  obtain ⟨mk, hn⟩ := Cond.code_named h
  obtain ⟨meth, c, h1, h2, -, h4, -, -, -, h8⟩ := Cond.code_spec hn h
  exact ⟨mk, meth, c, hn, h1, h2, h4, h8⟩
theorem xHd_with {y : MethodName} {b : ByteArray} {n : Nat} {r : Option FieldType} {hs : List (Nat × Nat × Nat × Nat)} : xHd (.codeWith y b n r hs) y n := by
  intro args s h
  obtain ⟨mk, meth, c, hn, h1, h2, -, h4, -, -, -, h8⟩ := Cond.codeWith_spec h
  exact ⟨mk, meth, c, hn, h1, h2, h4, h8⟩
/-- from the invoking instruction to the callee's invocation -/
def xPf (p : Program) (l : Launch) (e : Env) (R : Room) (s : State) (m : MethodId) (args : Array Value) (below : List Frame) (meth : Method) (c : Code) (nL : Nat) (E : xE) (k n : Nat) (ws : va_W) (pc : Nat) (y : MethodName) (av st rest : List Value) : Prop :=
  ∀ (H : Heap) (locs : List Loc) (ls : Array Slot) (T : State), ls.size = nL → va_P E.1 vwCl ws H → T.heap = H → Stand p l e R s m args below meth c T locs k n →
    ∃ (vm₁ : Vm) (mk : MethodId), s.WarmedH vm₁ ∧ s.methodNamed? y = some mk ∧ ∀ target, (∀ acts, Steps p.tables e below (doInvoke e ((T.setVm vm₁).setTop (F0 m pc ls rest)) acts mk av.toArray).1 target) → Steps p.tables e below (T.setTop (F0 m pc ls st)) target
/-- a call: its world cut out, its ends joined to the rest -/
theorem x_call0 (npc : Nat) (hB : xB p s m args meth c E A own cc nL ret mn hs) {y : MethodName} {hd : Cond} {rm : Room} {av : List Value} {w wr : va_W} {Post : xO → va_W → Prop} {maxL k' n' : Nat} {ig : Instr}
    (pf : xPf p l e R s m args below meth c nL E k n ws pc y av st rest) (hC : xC l E y hd rm av w Post) (hhd : hd ∈ xG) (hh : xHd hd y maxL) (hini : Cond.initialized y.cls ∈ xG)
    (isC isR : List Nat) (hw : isC.map (fun i => ws[i]?) = w.map some) (hndC : va_nd isC = true) (hr : isR.map (fun i => ws[i]?) = wr.map some) (hnd : va_nd isR = true) (hdis : ∀ i ∈ isR, i ∉ isC)
    (hR : rm.frames + 1 ≤ R.frames ∧ 8 + (maxL + 11) + rm.locals ≤ R.locals) (hkR : k + rm.cells ≤ R.cells ∧ n + rm.slots ≤ R.slots) (hk : k + rm.cells ≤ k') (hn' : n + rm.slots ≤ n')
    (hst : (rest.map fun v => v.category).sum ≤ 8) (hd0 : decode cc pc = .ok (ig, 3)) (hn : pc + 3 = npc)
    (kt : ∀ (C : String) (w' : va_W), Post (.inr C) w' → xT p l e R s m args below meth c nL E A A k' n' Q (wr ++ w') pc lv C)
    (kk : ∀ (v : Option Value) (w' : va_W), Post (.inl v) w' → xW p l e R s m args below meth c nL E A A k' n' Q (wr ++ w') npc lv (v.toList ++ rest)) : xW p l e R s m args below meth c nL E A A k n Q ws pc lv st := by
  intro H locs ls hl hP hD hS T hT X
  obtain ⟨vm₁, mk, hW₁, hnm0, hstep⟩ := pf H locs ls T hl.1 hP hT X
  have X₁ := X.noted hW₁
  have hnm : (T.setVm vm₁).methodNamed? y = some mk := X₁.named hnm0
  have hall : ∀ w ∈ hd :: xG, w.before av.toArray (T.setVm vm₁) = true := by
    intro w hw
    rcases List.mem_cons.mp hw with rfl | hw
    · exact xG_warm hhd X₁.warmed (hB.qt _ hhd)
    · exact xG_warm hw X₁.warmed (hB.qt _ hw)
  obtain ⟨mk', methY, cY, h1, h2, h3, h4, -⟩ := hh _ _ (hall hd List.mem_cons_self)
  cases hnm.symm.trans h1
  have hF := va_free (wc := w) hD hS hB.qa isC hw
  have hzz : xZ E (va_A w H.size) (T.setVm vm₁) H := ((hB.qz.kept (fun a h1 h2 => hS.2.1 a h1 h2)).narrow hF).moved X₁.warmed
  have hpre : xPre E av w H.size av.toArray (T.setVm vm₁) := by
    have hTe : (T.setVm vm₁).heap = H := hT
    refine ⟨rfl, by rw [hTe], by rw [hTe]; exact hP.sub isC (x_fm hw), va_K.moved X₁.warmed.alike hB.qk, (hD.sub isC hndC hw).weaken (fun _ _ _ _ => trivial), by rw [hTe]; exact hzz⟩
  obtain ⟨o, t, L, U', X', hL, e1, e2, hq, hsteps⟩ := x_back (hC H.size) x_blind X₁ (g := F0 m pc ls rest) rfl (hl.1.trans hB.ql.symm) (by rw [hB.qb]; exact hd0) (lv_room hst) hnm h2 h3 h4 hR.1 hR.2 hall (hall _ (List.mem_cons_of_mem _ hini)) hkR.1 hkR.2 hpre
  obtain ⟨⟨ox, w', hox, hpost, hP1, hD1⟩, hz1, hk1⟩ := hq
  have hTe : ((T.setVm vm₁).calling (F0 m pc ls rest) mk av.toArray).heap = H := hT
  rw [hTe] at hz1 hk1
  obtain ⟨hP2, hD2⟩ := va_join hP hD isC isR hw hr hnd hdis hk1 hF hP1 hD1
  have hS2 : va_S A s.heap t.heap (locs ++ L) := ⟨Nat.le_trans hS.1 hz1, fun q h1 h2 => by rw [hk1 q (Nat.lt_of_lt_of_le h1 hS.1) (fun z => h2 (hF q z))]; exact hS.2.1 q h1 h2, fun q hq => by
    rcases List.mem_append.mp hq with h | h
    · exact hS.2.2 q h
    · exact hF _ (hL q h)⟩
  have X'' := stand_widen X' hk hn'
  subst hn
  cases ox with
  | inl v =>
    have hox : o = .returned v := hox
    subst hox
    obtain ⟨t2, a1, b1⟩ := kk v w' hpost t.heap (locs ++ L) ls hl hP2 hD2 hS2 U' e1 X''
    exact ⟨t2, hstep _ (fun acts => by rw [doInvoke_state]; exact hsteps.trans a1), b1⟩
  | inr C =>
    obtain ⟨a, cell, hox, ha, hc, hcs, hcl⟩ := hox
    subst hox
    obtain ⟨t2, a1, b1⟩ := kt C w' hpost t.heap (locs ++ L) ls rest a cell hl hP2 hD2 hS2 (Nat.le_trans hS.1 ha) hc hcs (by rw [← X'.warmed.alike.findClass, e2]; exact hcl) U' e1 X''
    exact ⟨t2, hstep _ (fun acts => by rw [doInvoke_state]; exact hsteps.trans a1), b1⟩
def xNm (y : MethodName) (k : Nat) : Prop := (y.cls ≠ "java/lang/invoke/MethodHandle" ∧ y.cls ≠ "java/lang/invoke/VarHandle") ∧ (parseMethodDescriptor y.desc).map (fun d => d.parameters.length) = some k
theorem xNm.len {y : MethodName} {k : Nat} (h : xNm y k) {sig : MethodDescriptor} (hs : parseMethodDescriptor y.desc = some sig) : k = sig.parameters.length := by
  have h2 := h.2
  rw [hs] at h2
  exact (Option.some.inj h2).symm
/-- invokestatic -/
theorem x_pfS {hd : Cond} {y : MethodName} {idx maxL : Nat} {av : List Value} (hB : xB p s m args meth c E A own cc nL ret mn hs) (hhd : hd ∈ xG) (hh : xHd hd y maxL) (hini : Cond.initialized y.cls ∈ xG) (hlk : Cond.methodLink own idx y ∈ xG) (hstt : Cond.static y ∈ xG) (hy : xNm y av.length) (hst : st = av.reverse ++ rest) (hd0 : decode cc pc = .ok (.invokestatic idx, 3)) :
    xPf p l e R s m args below meth c nL E k n ws pc y av st rest := by
  intro H locs ls T hsz hP hT X
  obtain ⟨mk, methM, cM, hnamed, hmethM, -, -, hsigM⟩ := hh _ _ (hB.qt _ hhd)
  have hstatic : methM.isStatic = true := Cond.static_spec hnamed hmethM (hB.qt _ hstt)
  obtain ⟨kP, hkP, -⟩ := className_of_methodNamed hnamed
  have hinitP : kP.init = .initialized := Cond.initialized_spec (findClass_of_methodNamed hnamed) hkP (hB.qt _ hini)
  obtain ⟨vm₁, X₁, hstep₁⟩ := X.invokestatic hB.qx hB.qo (hB.qt _ hlk) hnamed hmethM hstatic hkP hinitP hy.1 (g := F0 m pc ls st) rfl (argsL := av) (rest := rest) (hy.len hsigM) hst (by rw [hB.qb]; exact hd0)
  exact ⟨vm₁, mk, X₁.warmed, hnamed, fun target h => hstep₁ _ h⟩
/-- invokevirtual of a method that the receiver's class C declares -/
theorem x_pfV {hd : Cond} {y : MethodName} {idx maxL q0 ci b N : Nat} {T0 : u_T} {C : String} {fs av : List Value} (hB : xB p s m args meth c E A own cc nL ret mn hs) (hhd : hd ∈ xG) (hh : xHd hd y maxL) (hlk : Cond.methodLink own idx y ∈ xG) (hinst : Cond.instanceMethod y ∈ xG) (hsel : Cond.selects C y y ∈ xG) (he : ws[q0]? = some (b, .inr (ci, fs))) (hc : vwCl[ci]? = some (C, T0, N)) (hy : xNm y av.length) (hst : st = av.reverse ++ .ref b :: rest) (hd0 : decode cc pc = .ok (.invokevirtual idx, 3)) :
    xPf p l e R s m args below meth c nL E k n ws pc y (.ref b :: av) st rest := by
  intro H locs ls T hsz hP hT X
  obtain ⟨cellB, hcell, hobj, hcls⟩ := va_recv hB.qk hP hc he
  obtain ⟨mk, methM, hnamed, hmethM, hstM, habM⟩ := Cond.instanceMethod_spec (hB.qt _ hinst)
  obtain ⟨mk', methM', cM, hn', hmethM', -, -, hsigM⟩ := hh _ _ (hB.qt _ hhd)
  cases hnamed.symm.trans hn'
  cases hmethM.symm.trans hmethM'
  obtain ⟨c2, r2, m2, q1, q2, q3, q4, kP, hkP, hkPi⟩ := Cond.selects_spec (hB.qt _ hsel)
  cases hcls.symm.trans q1
  cases (State.methodFound?_of_named hnamed hy.1).symm.trans q2
  cases hnamed.symm.trans q3
  have hselP : selectMethod e.platform s.vm cellB.cls mk = .method mk := by rw [Launch.admits_selectMethod X.admits]; exact q4
  obtain ⟨vm₁, X₁, hstep₁⟩ := X.invokevirtual hB.qx hB.qo (hB.qt _ hlk) hnamed hmethM hstM hkP hkPi hy.1 (a := b) (cell := cellB) (by rw [hT]; exact hcell)
    (fun z h => by rw [h] at hobj; cases hobj) hselP hmethM habM hkP hkPi (g := F0 m pc ls st) rfl (argsL := av) (rest := rest) (hy.len hsigM) hst (by rw [hB.qb]; exact hd0)
  exact ⟨vm₁, mk, X₁.warmed, hnamed, fun target h => hstep₁ _ h⟩
/-- invokevirtual through a class that inherits the method, or whose receiver overrides it -/
theorem x_pfU {hd : Cond} {x y : MethodName} {idx maxL q0 ci b N : Nat} {T0 : u_T} {C owner : String} {fs av : List Value} (hB : xB p s m args meth c E A own cc nL ret mn hs) (hhd : hd ∈ xG) (hh : xHd hd y maxL) (hlk : Cond.methodLink own idx x ∈ xG) (hsame : Cond.sameMethod x.cls owner x.name x.desc ∈ xG) (hdecl : va_Decl s ⟨owner, x.name, x.desc⟩) (hinst : Cond.instanceMethod y ∈ xG) (hsel : Cond.selects C x y ∈ xG) (he : ws[q0]? = some (b, .inr (ci, fs))) (hc : vwCl[ci]? = some (C, T0, N)) (ho : owner ≠ "java/lang/invoke/MethodHandle" ∧ owner ≠ "java/lang/invoke/VarHandle") (hy : xNm x av.length) (hst : st = av.reverse ++ .ref b :: rest) (hd0 : decode cc pc = .ok (.invokevirtual idx, 3)) :
    xPf p l e R s m args below meth c nL E k n ws pc y (.ref b :: av) st rest := by
  intro H locs ls T hsz hP hT X
  obtain ⟨cellB, hcell, hobj, hcls⟩ := va_recv hB.qk hP hc he
  obtain ⟨r0, r, hn, hrm, hstR, hsigR⟩ := hdecl
  obtain ⟨cn, ck, r1, hcn, hck, hni, hf, hn1⟩ := Cond.sameMethod_found (hB.qt _ hsame)
  cases hn.symm.trans hn1
  obtain ⟨mk, methM, hnamed, hmethM, -, habM⟩ := Cond.instanceMethod_spec (hB.qt _ hinst)
  obtain ⟨c2, r2, m2, q1, q2, q3, q4, kP, hkP, hkPi⟩ := Cond.selects_spec (hB.qt _ hsel)
  cases hcls.symm.trans q1
  cases hf.symm.trans q2
  cases hnamed.symm.trans q3
  have hselP : selectMethod e.platform s.vm cellB.cls r0 = .method mk := by rw [Launch.admits_selectMethod X.admits]; exact q4
  obtain ⟨vm₁, X₁, hstep₁⟩ := X.invokevirtualUp hB.qx hB.qo (hB.qt _ hlk) (hB.qt _ hsame) ho hn hrm hstR (a := b) (cell := cellB) (by rw [hT]; exact hcell)
    (fun z h => by rw [h] at hobj; cases hobj) hselP hmethM habM hkP hkPi (g := F0 m pc ls st) rfl (argsL := av) (rest := rest) (hy.len hsigR) hst (by rw [hB.qb]; exact hd0)
  exact ⟨vm₁, mk, X₁.warmed, hnamed, fun target h => hstep₁ _ h⟩
/-- invokespecial of a constructor -/
theorem x_pfI {y : MethodName} {idx maxL b : Nat} {bytes : ByteArray} {av : List Value} (hB : xB p s m args meth c E A own cc nL ret mn hs) (hhd : Cond.code y bytes maxL none ∈ xG) (hlk : Cond.methodLink own idx y ∈ xG) (hinst : Cond.instanceMethod y ∈ xG) (hy1 : y.name = "<init>") (hy : xNm y av.length) (hst : st = av.reverse ++ .ref b :: rest) (hd0 : decode cc pc = .ok (.invokespecial idx, 3)) :
    xPf p l e R s m args below meth c nL E k n ws pc y (.ref b :: av) st rest := by
  intro H locs ls T hsz hP hT X
  have hpl : e.platform.magicAccessors = ({} : Platform).magicAccessors := by rw [X.admits.platform]
  obtain ⟨mk, methM, cM, kP, vm₁, hnamed, hmethM, hcodeM, -, hlocalsM, -, hkP, -, hW₁, hstep₁⟩ := Steps.initColdArgs (e := e) X.here hB.qx X.warmed hpl hB.qo hy1 hy.1 (hB.qt _ hlk) (hB.qt _ hinst) (hB.qt _ hhd) (f := F0 m pc ls st) rfl (fun sig h => hy.len h) hst (by rw [hB.qb]; exact hd0)
  exact ⟨vm₁, mk, hW₁, hnamed, fun target h => hstep₁ _ h⟩
theorem x_mono {H : Heap} {locs : List Loc} {g : JFrame} {Q' : State → Prop} (h : ∀ t, Q t → Q' t) (w : W p l e R s m args below meth c H locs k n Q g) : W p l e R s m args below meth c H locs k n Q' g := fun T hT X => by
  obtain ⟨t, a, b⟩ := w T hT X
  exact ⟨t, a, h t b⟩
theorem x_mq {w : va_W} {Post : xO → va_W → Prop} {t : State} (h : MQ below (xPost E w s.heap.size Post) args s k n (va_A w s.heap.size) t) : xMQ below E w args s k n Post t := by
  obtain ⟨o, h1, h2, h3, L, ⟨-, hW, hS⟩, h5⟩ := h
  exact ⟨o, h1, h2, h3, L, ⟨hW, hS⟩, h5⟩
/-- the ends -/
theorem x_ends {w w' : va_W} {Post : xO → va_W → Prop} {v : Option Value} {H : Heap} {locs : List Loc} (hA : A = va_A w s.heap.size) (is : List Nat) (hnd : va_nd is = true) (hw : is.map (fun i => ws[i]?) = w'.map some) (hp : Post (.inl v) w') (hP : va_P E.1 vwCl ws H) (hD : va_D A ws) (hS : va_S A s.heap H locs) :
    (∀ t : State, t.heap = H → s.WarmedH t.vm → xPost E w s.heap.size Post args s (.returned v) t) ∧ ∀ q ∈ locs, va_A w s.heap.size q.base := by
  subst hA
  exact ⟨fun t ht hW => ⟨⟨.inl v, w', rfl, hp, by rw [ht]; exact hP.sub is (x_fm hw), hD.sub is hnd hw⟩, hS.F ht⟩, hS.2.2⟩
theorem x_iret {v : Int32} (hB : xB p s m args meth c E A own cc nL (some .int) mn hs) {w w' : va_W} {Post : xO → va_W → Prop} {mc ms : Nat}  (hA : A = va_A w s.heap.size) (is : List Nat) (hnd : va_nd is = true) (hw : is.map (fun i => ws[i]?) = w'.map some) (hp : Post (.inl (some (.int v))) w') (hk : k ≤ mc) (hn : n ≤ ms) (hd : decode cc pc = .ok (.ireturn, 1)) : xW p l e R s m args below meth c nL E A A k n (xMQ below E w args s mc ms Post) ws pc lv [.int v] := fun H locs ls hl hP hD hS => by
  have he := x_ends (args := args) hA is hnd hw hp hP hD hS
  exact W.widen hk hn (x_mono (fun t h => x_mq h) (W.iret hB.qx hB.qb hB.qr he.1 he.2 hd hB.qn))
theorem x_zret {v : Int32}  (hB : xB p s m args meth c E A own cc nL (some .boolean) mn hs) {w w' : va_W} {Post : xO → va_W → Prop} {mc ms : Nat} (hz : narrow .boolean (.int v) = .int v) (hA : A = va_A w s.heap.size) (is : List Nat) (hnd : va_nd is = true) (hw : is.map (fun i => ws[i]?) = w'.map some) (hp : Post (.inl (some (.int v))) w') (hk : k ≤ mc) (hn : n ≤ ms) (hd : decode cc pc = .ok (.ireturn, 1)) : xW p l e R s m args below meth c nL E A A k n (xMQ below E w args s mc ms Post) ws pc lv [.int v] := fun H locs ls hl hP hD hS => by
  have he := x_ends (args := args) hA is hnd hw hp hP hD hS
  exact W.widen hk hn (x_mono (fun t h => x_mq h) (W.zret hB.qx hB.qb hB.qr hz he.1 he.2 hd hB.qn))
theorem x_lret {v : Int64} (hB : xB p s m args meth c E A own cc nL (some .long) mn hs) {w w' : va_W} {Post : xO → va_W → Prop} {mc ms : Nat}  (hA : A = va_A w s.heap.size) (is : List Nat) (hnd : va_nd is = true) (hw : is.map (fun i => ws[i]?) = w'.map some) (hp : Post (.inl (some (.long v))) w') (hk : k ≤ mc) (hn : n ≤ ms) (hd : decode cc pc = .ok (.lreturn, 1)) : xW p l e R s m args below meth c nL E A A k n (xMQ below E w args s mc ms Post) ws pc lv [.long v] := fun H locs ls hl hP hD hS => by
  have he := x_ends (args := args) hA is hnd hw hp hP hD hS
  exact W.widen hk hn (x_mono (fun t h => x_mq h) (W.lret hB.qx hB.qb hB.qr he.1 he.2 hd hB.qn))
theorem x_vret  (hB : xB p s m args meth c E A own cc nL none mn hs) {w w' : va_W} {Post : xO → va_W → Prop} {mc ms : Nat}  (hA : A = va_A w s.heap.size) (is : List Nat) (hnd : va_nd is = true) (hw : is.map (fun i => ws[i]?) = w'.map some) (hp : Post (.inl none) w') (hk : k ≤ mc) (hn : n ≤ ms) (hd : decode cc pc = .ok (.return_, 1)) : xW p l e R s m args below meth c nL E A A k n (xMQ below E w args s mc ms Post) ws pc lv [] := fun H locs ls hl hP hD hS => by
  have he := x_ends (args := args) hA is hnd hw hp hP hD hS
  exact W.widen hk hn (x_mono (fun t h => x_mq h) (W.vret hB.qx hB.qb hB.qr he.1 he.2 hd hB.qn))
theorem x_aret {C : String} {v : Nat} (hB : xB p s m args meth c E A own cc nL (some (.object C)) mn hs) {w w' : va_W} {Post : xO → va_W → Prop} {mc ms : Nat}  (hA : A = va_A w s.heap.size) (is : List Nat) (hnd : va_nd is = true) (hw : is.map (fun i => ws[i]?) = w'.map some) (hp : Post (.inl (some (.ref v))) w') (hk : k ≤ mc) (hn : n ≤ ms) (hd : decode cc pc = .ok (.areturn, 1)) : xW p l e R s m args below meth c nL E A A k n (xMQ below E w args s mc ms Post) ws pc lv [.ref v] := fun H locs ls hl hP hD hS => by
  have he := x_ends (args := args) hA is hnd hw hp hP hD hS
  exact W.widen hk hn (x_mono (fun t h => x_mq h) (W.aret hB.qx hB.qb hB.qr (Or.inl ⟨_, rfl⟩) (Or.inr ⟨_, rfl⟩) he.1 he.2 hd hB.qn))
/-- an exception leaves the method -/
theorem x_leave (hB : xB p s m args meth c E A own cc nL ret mn hs) {w w' : va_W} {Post : xO → va_W → Prop} {mc ms : Nat} {C : String} (hA : A = va_A w s.heap.size) (is : List Nat) (hnd : va_nd is = true) (hw : is.map (fun i => ws[i]?) = w'.map some) (hp : Post (.inr C) w') (hk : k ≤ mc) (hn : n ≤ ms) (hout : ∀ h ∈ hs, ¬ (h.1 ≤ pc ∧ pc < h.2.1)) :
    xT p l e R s m args below meth c nL E A A k n (xMQ below E w args s mc ms Post) ws pc lv C := by
  intro H locs ls st a cell hl hP hD hS ha hc hcs hcl T hT X
  have X' := stand_widen X hk hn
  have hout' : ∀ x ∈ c.exceptionTable.toList, covers x pc = false := by
    intro x hx
    have h1 : (x.startPc, x.endPc, x.handlerPc, x.catchType) ∈ hs := by rw [← hB.qe]; exact List.mem_map.mpr ⟨x, hx, rfl⟩
    have h2 := hout _ h1
    simp only [covers, Bool.and_eq_false_iff, decide_eq_false_iff_not]
    by_cases h3 : x.startPc ≤ pc
    · exact Or.inr (fun h4 => h2 ⟨h3, h4⟩)
    · exact Or.inl h3
  obtain ⟨hwalk, hrun, hended, hWm, hsame⟩ := X'.leaveThrown a (g := F0 m pc ls st) rfl rfl rfl hout' (hlocks := hB.qn)
  subst hA
  refine ⟨T.setFrames (.throwing a :: below), hwalk, .threw a, hrun, hended, ⟨⟨.inr C, w', ⟨a, cell, rfl, ha, by show T.heap[a]? = _; rw [hT]; exact hc, hcs, by rw [hWm.alike.findClass]; exact hcl⟩, hp, by show va_P _ _ _ T.heap; rw [hT]; exact hP.sub is (x_fm hw), hD.sub is hnd hw⟩, hS.F (show T.heap = H from hT)⟩, locs, ⟨hWm, hsame⟩, hS.2.2⟩
end XR
/-! deterministic ends, joins, loops -/
def xRet (v : Option Value) (w : va_W) : xO → va_W → Prop := fun o w' => o = .inl v ∧ w' = w
def xThr (C : String) (w : va_W) : xO → va_W → Prop := fun o w' => o = .inr C ∧ w' = w
theorem xRet_i {v : Option Value} {w : va_W} : xRet v w (.inl v) w := ⟨rfl, rfl⟩
theorem xThr_i {C : String} {w : va_W} : xThr C w (.inr C) w := ⟨rfl, rfl⟩
section XJ
variable {p : Program} {l : Launch} {e : Env} {R : Room} {s : State} {m : MethodId} {args : Array Value} {below : List Frame} {meth : Method} {c : Code} {nL : Nat} {E : xE} {B A : Nat → Prop} {k n : Nat} {Q : State → Prop} {ws : va_W} {pc : Nat} {lv : List (Nat × Value)} {st rest : List Value} {own mn : String} {cc : ByteArray} {ret : Option FieldType} {hs : List (Nat × Nat × Nat × Nat)}
theorem x_callD (npc : Nat) (hB : xB p s m args meth c E A own cc nL ret mn hs) {y : MethodName} {hd : Cond} {rm : Room} {av st' : List Value} {w wr w2 ws' : va_W} {v : Option Value} {maxL k' n' : Nat} {ig : Instr}
    (pf : xPf p l e R s m args below meth c nL E k n ws pc y av st rest) (hC : xC l E y hd rm av w (xRet v w2)) (hhd : hd ∈ xG) (hh : xHd hd y maxL) (hini : Cond.initialized y.cls ∈ xG)
    (isC isR : List Nat) (hw : isC.map (fun i => ws[i]?) = w.map some) (hndC : va_nd isC = true) (hr : isR.map (fun i => ws[i]?) = wr.map some) (hnd : va_nd isR = true) (hdis : ∀ i ∈ isR, i ∉ isC)
    (hR : rm.frames + 1 ≤ R.frames ∧ 8 + (maxL + 11) + rm.locals ≤ R.locals) (hkR : k + rm.cells ≤ R.cells ∧ n + rm.slots ≤ R.slots) (hk : k + rm.cells = k') (hn' : n + rm.slots = n')
    (hst : (rest.map fun v => v.category).sum ≤ 8) (hd0 : decode cc pc = .ok (ig, 3)) (hn : pc + 3 = npc) (hws : wr ++ w2 = ws') (hst' : v.toList ++ rest = st')
    (kk : xW p l e R s m args below meth c nL E A A k' n' Q ws' npc lv st') : xW p l e R s m args below meth c nL E A A k n Q ws pc lv st := by
  subst hws
  subst hst'
  refine x_call0 npc hB pf hC hhd hh hini isC isR hw hndC hr hnd hdis hR hkR (Nat.le_of_eq hk) (Nat.le_of_eq hn') hst hd0 hn (fun C w' h => ?_) (fun v' w' h => ?_)
  · exact absurd h.1 (by simp)
  · obtain ⟨h1, h2⟩ := h
    cases h1
    cases h2
    exact kk
theorem x_callT (hB : xB p s m args meth c E A own cc nL ret mn hs) {y : MethodName} {hd : Cond} {rm : Room} {av : List Value} {w wr w2 ws' : va_W} {C : String} {maxL k' n' : Nat} {ig : Instr}
    (pf : xPf p l e R s m args below meth c nL E k n ws pc y av st rest) (hC : xC l E y hd rm av w (xThr C w2)) (hhd : hd ∈ xG) (hh : xHd hd y maxL) (hini : Cond.initialized y.cls ∈ xG)
    (isC isR : List Nat) (hw : isC.map (fun i => ws[i]?) = w.map some) (hndC : va_nd isC = true) (hr : isR.map (fun i => ws[i]?) = wr.map some) (hnd : va_nd isR = true) (hdis : ∀ i ∈ isR, i ∉ isC)
    (hR : rm.frames + 1 ≤ R.frames ∧ 8 + (maxL + 11) + rm.locals ≤ R.locals) (hkR : k + rm.cells ≤ R.cells ∧ n + rm.slots ≤ R.slots) (hk : k + rm.cells = k') (hn' : n + rm.slots = n')
    (hst : (rest.map fun v => v.category).sum ≤ 8) (hd0 : decode cc pc = .ok (ig, 3)) (hws : wr ++ w2 = ws')
    (kt : xT p l e R s m args below meth c nL E A A k' n' Q ws' pc lv C) : xW p l e R s m args below meth c nL E A A k n Q ws pc lv st := by
  subst hws
  refine x_call0 _ hB pf hC hhd hh hini isC isR hw hndC hr hnd hdis hR hkR (Nat.le_of_eq hk) (Nat.le_of_eq hn') hst hd0 rfl (fun C w' h => ?_) (fun v' w' h => ?_)
  · obtain ⟨h1, h2⟩ := h
    cases h1
    cases h2
    exact kt
  · exact absurd h.1 (by simp)
theorem x_join {α : Type} (pcJ : Nat) (P : α → Prop) (wsF : α → va_W) (lvF : α → List (Nat × Value)) (stF : α → List Value) (kj : ∀ a, P a → xW p l e R s m args below meth c nL E B A k n Q (wsF a) pcJ (lvF a) (stF a))
    (kk : (∀ a, P a → xW p l e R s m args below meth c nL E B A k n Q (wsF a) pcJ (lvF a) (stF a)) → xW p l e R s m args below meth c nL E B A k n Q ws pc lv st) : xW p l e R s m args below meth c nL E B A k n Q ws pc lv st := kk kj
theorem x_loop {α : Type} (I : α → Prop) (μ : α → Nat) (wsF : α → va_W) (lvF : α → List (Nat × Value)) (stF : α → List Value) (a0 : α) (h0 : I a0) (hw : ws = wsF a0) (hl : lv = lvF a0) (hst : st = stF a0)
    (body : ∀ a, I a → (∀ b, I b → μ b < μ a → xW p l e R s m args below meth c nL E B A k n Q (wsF b) pc (lvF b) (stF b)) → xW p l e R s m args below meth c nL E B A k n Q (wsF a) pc (lvF a) (stF a)) : xW p l e R s m args below meth c nL E B A k n Q ws pc lv st := by
  subst hw
  subst hl
  subst hst
  have key : ∀ (d : Nat) (a : α), μ a ≤ d → I a → xW p l e R s m args below meth c nL E B A k n Q (wsF a) pc (lvF a) (stF a) := by
    intro d
    induction d with
    | zero => exact fun a h ha => body a ha (fun b _ hm => absurd hm (by omega))
    | succ d ih => exact fun a h ha => body a ha (fun b hb hm => ih b (by omega) hb)
  exact key (μ a0) a0 (Nat.le_refl _) h0
theorem x_of' {y : MethodName} {rm : Room} {av : List Value} {w : va_W} {Post : xO → va_W → Prop} (hy : plainFor y = true) (ho : y.cls = own) (hm : y.name = mn) (hsl : (lg_sl av).length ≤ nL) (hlv : lv_args 0 av = lv)
    (body : ∀ p e s m args below meth c A, A = va_A w s.heap.size → xB p s m args meth c E A own cc nL ret mn [] → xW p l e rm s m args below meth c nL E A A 0 0 (xMQ below E w args s rm.cells rm.slots Post) w 0 lv []) : xC l E y (.code y cc nL ret) rm av w Post := by
  subst ho
  subst hm
  exact x_of hy hsl hlv body
theorem x_ofH' {y : MethodName} {rm : Room} {av : List Value} {w : va_W} {Post : xO → va_W → Prop} (hy : plainFor y = true) (ho : y.cls = own) (hm : y.name = mn) (hsl : (lg_sl av).length ≤ nL) (hlv : lv_args 0 av = lv)
    (body : ∀ p e s m args below meth c A, A = va_A w s.heap.size → xB p s m args meth c E A own cc nL ret mn hs → xW p l e rm s m args below meth c nL E A A 0 0 (xMQ below E w args s rm.cells rm.slots Post) w 0 lv []) : xC l E y (.codeWith y cc nL ret hs) rm av w Post := by
  subst ho
  subst hm
  exact x_ofH hy hsl hlv body
end XJ
end
section
theorem d_L_init_0 : decode prog_2_method_1_code 0 = .ok (.aload_n 0, 1) := by decide +kernel
theorem d_L_init_1 : decode prog_2_method_1_code 1 = .ok (.invokespecial 3, 3) := by decide +kernel
theorem d_L_init_4 : decode prog_2_method_1_code 4 = .ok (.aload_n 0, 1) := by decide +kernel
theorem d_L_init_5 : decode prog_2_method_1_code 5 = .ok (.sipush 2640, 3) := by decide +kernel
theorem d_L_init_8 : decode prog_2_method_1_code 8 = .ok (.newarray .byte, 2) := by decide +kernel
theorem d_L_init_10 : decode prog_2_method_1_code 10 = .ok (.putfield 11, 3) := by decide +kernel
theorem d_L_init_13 : decode prog_2_method_1_code 13 = .ok (.aload_n 0, 1) := by decide +kernel
theorem d_L_init_14 : decode prog_2_method_1_code 14 = .ok (.iconst 0, 1) := by decide +kernel
theorem d_L_init_15 : decode prog_2_method_1_code 15 = .ok (.putfield 15, 3) := by decide +kernel
theorem d_L_init_18 : decode prog_2_method_1_code 18 = .ok (.aload_n 0, 1) := by decide +kernel
theorem d_L_init_19 : decode prog_2_method_1_code 19 = .ok (.iconst 0, 1) := by decide +kernel
theorem d_L_init_20 : decode prog_2_method_1_code 20 = .ok (.putfield 19, 3) := by decide +kernel
theorem d_L_init_23 : decode prog_2_method_1_code 23 = .ok (.return_, 1) := by decide +kernel
theorem d_R_init_0 : decode prog_3_method_1_code 0 = .ok (.aload_n 0, 1) := by decide +kernel
theorem d_R_init_1 : decode prog_3_method_1_code 1 = .ok (.invokespecial 3, 3) := by decide +kernel
theorem d_R_init_4 : decode prog_3_method_1_code 4 = .ok (.aload_n 0, 1) := by decide +kernel
theorem d_R_init_5 : decode prog_3_method_1_code 5 = .ok (.aload_n 1, 1) := by decide +kernel
theorem d_R_init_6 : decode prog_3_method_1_code 6 = .ok (.putfield 9, 3) := by decide +kernel
theorem d_R_init_9 : decode prog_3_method_1_code 9 = .ok (.aload_n 0, 1) := by decide +kernel
theorem d_R_init_10 : decode prog_3_method_1_code 10 = .ok (.iconst 0, 1) := by decide +kernel
theorem d_R_init_11 : decode prog_3_method_1_code 11 = .ok (.putfield 15, 3) := by decide +kernel
theorem d_R_init_14 : decode prog_3_method_1_code 14 = .ok (.aload_n 0, 1) := by decide +kernel
theorem d_R_init_15 : decode prog_3_method_1_code 15 = .ok (.iconst 0, 1) := by decide +kernel
theorem d_R_init_16 : decode prog_3_method_1_code 16 = .ok (.putfield 19, 3) := by decide +kernel
theorem d_R_init_19 : decode prog_3_method_1_code 19 = .ok (.aload_n 0, 1) := by decide +kernel
theorem d_R_init_20 : decode prog_3_method_1_code 20 = .ok (.iconst 0, 1) := by decide +kernel
theorem d_R_init_21 : decode prog_3_method_1_code 21 = .ok (.putfield 23, 3) := by decide +kernel
theorem d_R_init_24 : decode prog_3_method_1_code 24 = .ok (.aload_n 0, 1) := by decide +kernel
theorem d_R_init_25 : decode prog_3_method_1_code 25 = .ok (.iconst 0, 1) := by decide +kernel
theorem d_R_init_26 : decode prog_3_method_1_code 26 = .ok (.putfield 26, 3) := by decide +kernel
theorem d_R_init_29 : decode prog_3_method_1_code 29 = .ok (.return_, 1) := by decide +kernel
theorem d_S_init_0 : decode prog_4_method_1_code 0 = .ok (.aload_n 0, 1) := by decide +kernel
theorem d_S_init_1 : decode prog_4_method_1_code 1 = .ok (.invokespecial 1, 3) := by decide +kernel
theorem d_S_init_4 : decode prog_4_method_1_code 4 = .ok (.aload_n 0, 1) := by decide +kernel
theorem d_S_init_5 : decode prog_4_method_1_code 5 = .ok (.ldc2_w 9, 3) := by decide +kernel
theorem d_S_init_8 : decode prog_4_method_1_code 8 = .ok (.putfield 11, 3) := by decide +kernel
theorem d_S_init_11 : decode prog_4_method_1_code 11 = .ok (.return_, 1) := by decide +kernel
theorem d_L_left_0 : decode prog_2_method_5_code 0 = .ok (.aload_n 0, 1) := by decide +kernel
theorem d_L_left_1 : decode prog_2_method_5_code 1 = .ok (.getfield 15, 3) := by decide +kernel
theorem d_L_left_4 : decode prog_2_method_5_code 4 = .ok (.aload_n 0, 1) := by decide +kernel
theorem d_L_left_5 : decode prog_2_method_5_code 5 = .ok (.getfield 19, 3) := by decide +kernel
theorem d_L_left_8 : decode prog_2_method_5_code 8 = .ok (.isub, 1) := by decide +kernel
theorem d_L_left_9 : decode prog_2_method_5_code 9 = .ok (.ireturn, 1) := by decide +kernel
theorem d_L_ahead_0 : decode prog_2_method_12_code 0 = .ok (.iconst 0, 1) := by decide +kernel
theorem d_L_ahead_1 : decode prog_2_method_12_code 1 = .ok (.istore_n 2, 1) := by decide +kernel
theorem d_L_ahead_2 : decode prog_2_method_12_code 2 = .ok (.iconst 0, 1) := by decide +kernel
theorem d_L_ahead_3 : decode prog_2_method_12_code 3 = .ok (.istore_n 3, 1) := by decide +kernel
theorem d_L_ahead_4 : decode prog_2_method_12_code 4 = .ok (.iload_n 3, 1) := by decide +kernel
theorem d_L_ahead_5 : decode prog_2_method_12_code 5 = .ok (.iload_n 1, 1) := by decide +kernel
theorem d_L_ahead_6 : decode prog_2_method_12_code 6 = .ok (.if_icmp .ge 33, 3) := by decide +kernel
theorem d_L_ahead_9 : decode prog_2_method_12_code 9 = .ok (.iload_n 2, 1) := by decide +kernel
theorem d_L_ahead_10 : decode prog_2_method_12_code 10 = .ok (.iconst 1, 1) := by decide +kernel
theorem d_L_ahead_11 : decode prog_2_method_12_code 11 = .ok (.ishl, 1) := by decide +kernel
theorem d_L_ahead_12 : decode prog_2_method_12_code 12 = .ok (.aload_n 0, 1) := by decide +kernel
theorem d_L_ahead_13 : decode prog_2_method_12_code 13 = .ok (.aload_n 0, 1) := by decide +kernel
theorem d_L_ahead_14 : decode prog_2_method_12_code 14 = .ok (.getfield 19, 3) := by decide +kernel
theorem d_L_ahead_17 : decode prog_2_method_12_code 17 = .ok (.iload_n 3, 1) := by decide +kernel
theorem d_L_ahead_18 : decode prog_2_method_12_code 18 = .ok (.iadd, 1) := by decide +kernel
theorem d_L_ahead_19 : decode prog_2_method_12_code 19 = .ok (.invokevirtual 38, 3) := by decide +kernel
theorem d_L_ahead_22 : decode prog_2_method_12_code 22 = .ok (.iconst 1, 1) := by decide +kernel
theorem d_L_ahead_23 : decode prog_2_method_12_code 23 = .ok (.if_icmp .ne 7, 3) := by decide +kernel
theorem d_L_ahead_26 : decode prog_2_method_12_code 26 = .ok (.iconst 1, 1) := by decide +kernel
theorem d_L_ahead_27 : decode prog_2_method_12_code 27 = .ok (.goto 4, 3) := by decide +kernel
theorem d_L_ahead_30 : decode prog_2_method_12_code 30 = .ok (.iconst 0, 1) := by decide +kernel
theorem d_L_ahead_31 : decode prog_2_method_12_code 31 = .ok (.ior, 1) := by decide +kernel
theorem d_L_ahead_32 : decode prog_2_method_12_code 32 = .ok (.istore_n 2, 1) := by decide +kernel
theorem d_L_ahead_33 : decode prog_2_method_12_code 33 = .ok (.iinc 3 1, 3) := by decide +kernel
theorem d_L_ahead_36 : decode prog_2_method_12_code 36 = .ok (.goto (-32), 3) := by decide +kernel
theorem d_L_ahead_39 : decode prog_2_method_12_code 39 = .ok (.iload_n 2, 1) := by decide +kernel
theorem d_L_ahead_40 : decode prog_2_method_12_code 40 = .ok (.ireturn, 1) := by decide +kernel
theorem d_L_at_0 : decode prog_2_method_8_code 0 = .ok (.aload_n 0, 1) := by decide +kernel
theorem d_L_at_1 : decode prog_2_method_8_code 1 = .ok (.iload_n 1, 1) := by decide +kernel
theorem d_L_at_2 : decode prog_2_method_8_code 2 = .ok (.invokevirtual 22, 3) := by decide +kernel
theorem d_L_at_5 : decode prog_2_method_8_code 5 = .ok (.ifCond .eq 12, 3) := by decide +kernel
theorem d_L_at_8 : decode prog_2_method_8_code 8 = .ok (.aload_n 0, 1) := by decide +kernel
theorem d_L_at_9 : decode prog_2_method_8_code 9 = .ok (.getfield 11, 3) := by decide +kernel
theorem d_L_at_12 : decode prog_2_method_8_code 12 = .ok (.iload_n 1, 1) := by decide +kernel
theorem d_L_at_13 : decode prog_2_method_8_code 13 = .ok (.baload, 1) := by decide +kernel
theorem d_L_at_14 : decode prog_2_method_8_code 14 = .ok (.goto 4, 3) := by decide +kernel
theorem d_L_at_17 : decode prog_2_method_8_code 17 = .ok (.iconst (-1), 1) := by decide +kernel
theorem d_L_at_18 : decode prog_2_method_8_code 18 = .ok (.ireturn, 1) := by decide +kernel
theorem d_L_has_0 : decode prog_2_method_6_code 0 = .ok (.iload_n 1, 1) := by decide +kernel
theorem d_L_has_1 : decode prog_2_method_6_code 1 = .ok (.ifCond .lt 15, 3) := by decide +kernel
theorem d_L_has_4 : decode prog_2_method_6_code 4 = .ok (.iload_n 1, 1) := by decide +kernel
theorem d_L_has_5 : decode prog_2_method_6_code 5 = .ok (.aload_n 0, 1) := by decide +kernel
theorem d_L_has_6 : decode prog_2_method_6_code 6 = .ok (.getfield 15, 3) := by decide +kernel
theorem d_L_has_9 : decode prog_2_method_6_code 9 = .ok (.if_icmp .ge 7, 3) := by decide +kernel
theorem d_L_has_12 : decode prog_2_method_6_code 12 = .ok (.iconst 1, 1) := by decide +kernel
theorem d_L_has_13 : decode prog_2_method_6_code 13 = .ok (.goto 4, 3) := by decide +kernel
theorem d_L_has_16 : decode prog_2_method_6_code 16 = .ok (.iconst 0, 1) := by decide +kernel
theorem d_L_has_17 : decode prog_2_method_6_code 17 = .ok (.ireturn, 1) := by decide +kernel
theorem d_R_slip_0 : decode prog_3_method_8_code 0 = .ok (.aload_n 0, 1) := by decide +kernel
theorem d_R_slip_1 : decode prog_3_method_8_code 1 = .ok (.getfield 9, 3) := by decide +kernel
theorem d_R_slip_4 : decode prog_3_method_8_code 4 = .ok (.iconst 1, 1) := by decide +kernel
theorem d_R_slip_5 : decode prog_3_method_8_code 5 = .ok (.invokevirtual 29, 3) := by decide +kernel
theorem d_R_slip_8 : decode prog_3_method_8_code 8 = .ok (.aload_n 0, 1) := by decide +kernel
theorem d_R_slip_9 : decode prog_3_method_8_code 9 = .ok (.dup, 1) := by decide +kernel
theorem d_R_slip_10 : decode prog_3_method_8_code 10 = .ok (.getfield 19, 3) := by decide +kernel
theorem d_R_slip_13 : decode prog_3_method_8_code 13 = .ok (.iconst 1, 1) := by decide +kernel
theorem d_R_slip_14 : decode prog_3_method_8_code 14 = .ok (.iadd, 1) := by decide +kernel
theorem d_R_slip_15 : decode prog_3_method_8_code 15 = .ok (.putfield 19, 3) := by decide +kernel
theorem d_R_slip_18 : decode prog_3_method_8_code 18 = .ok (.bipush (-3), 2) := by decide +kernel
theorem d_R_slip_20 : decode prog_3_method_8_code 20 = .ok (.ireturn, 1) := by decide +kernel
theorem d_L_advance_0 : decode prog_2_method_13_code 0 = .ok (.aload_n 0, 1) := by decide +kernel
theorem d_L_advance_1 : decode prog_2_method_13_code 1 = .ok (.dup, 1) := by decide +kernel
theorem d_L_advance_2 : decode prog_2_method_13_code 2 = .ok (.getfield 19, 3) := by decide +kernel
theorem d_L_advance_5 : decode prog_2_method_13_code 5 = .ok (.iload_n 1, 1) := by decide +kernel
theorem d_L_advance_6 : decode prog_2_method_13_code 6 = .ok (.aload_n 0, 1) := by decide +kernel
theorem d_L_advance_7 : decode prog_2_method_13_code 7 = .ok (.invokevirtual 42, 3) := by decide +kernel
theorem d_L_advance_10 : decode prog_2_method_13_code 10 = .ok (.invokestatic 26, 3) := by decide +kernel
theorem d_L_advance_13 : decode prog_2_method_13_code 13 = .ok (.iadd, 1) := by decide +kernel
theorem d_L_advance_14 : decode prog_2_method_13_code 14 = .ok (.putfield 19, 3) := by decide +kernel
theorem d_L_advance_17 : decode prog_2_method_13_code 17 = .ok (.return_, 1) := by decide +kernel
theorem d_S_stirBack_0 : decode prog_4_method_4_code 0 = .ok (.iload_n 1, 1) := by decide +kernel
theorem d_S_stirBack_1 : decode prog_4_method_4_code 1 = .ok (.aload_n 0, 1) := by decide +kernel
theorem d_S_stirBack_2 : decode prog_4_method_4_code 2 = .ok (.invokevirtual 15, 3) := by decide +kernel
theorem d_S_stirBack_5 : decode prog_4_method_4_code 5 = .ok (.ixor, 1) := by decide +kernel
theorem d_S_stirBack_6 : decode prog_4_method_4_code 6 = .ok (.istore_n 2, 1) := by decide +kernel
theorem d_S_stirBack_7 : decode prog_4_method_4_code 7 = .ok (.aload_n 0, 1) := by decide +kernel
theorem d_S_stirBack_8 : decode prog_4_method_4_code 8 = .ok (.iload_n 1, 1) := by decide +kernel
theorem d_S_stirBack_9 : decode prog_4_method_4_code 9 = .ok (.invokevirtual 19, 3) := by decide +kernel
theorem d_S_stirBack_12 : decode prog_4_method_4_code 12 = .ok (.iload_n 2, 1) := by decide +kernel
theorem d_S_stirBack_13 : decode prog_4_method_4_code 13 = .ok (.ireturn, 1) := by decide +kernel
theorem d_S_turning_0 : decode prog_4_method_5_code 0 = .ok (.aload_n 0, 1) := by decide +kernel
theorem d_S_turning_1 : decode prog_4_method_5_code 1 = .ok (.getfield 11, 3) := by decide +kernel
theorem d_S_turning_4 : decode prog_4_method_5_code 4 = .ok (.bipush 38, 2) := by decide +kernel
theorem d_S_turning_6 : decode prog_4_method_5_code 6 = .ok (.lushr, 1) := by decide +kernel
theorem d_S_turning_7 : decode prog_4_method_5_code 7 = .ok (.aload_n 0, 1) := by decide +kernel
theorem d_S_turning_8 : decode prog_4_method_5_code 8 = .ok (.getfield 11, 3) := by decide +kernel
theorem d_S_turning_11 : decode prog_4_method_5_code 11 = .ok (.bipush 57, 2) := by decide +kernel
theorem d_S_turning_13 : decode prog_4_method_5_code 13 = .ok (.lushr, 1) := by decide +kernel
theorem d_S_turning_14 : decode prog_4_method_5_code 14 = .ok (.lxor, 1) := by decide +kernel
theorem d_S_turning_15 : decode prog_4_method_5_code 15 = .ok (.l2i, 1) := by decide +kernel
theorem d_S_turning_16 : decode prog_4_method_5_code 16 = .ok (.iconst 1, 1) := by decide +kernel
theorem d_S_turning_17 : decode prog_4_method_5_code 17 = .ok (.iand, 1) := by decide +kernel
theorem d_S_turning_18 : decode prog_4_method_5_code 18 = .ok (.ireturn, 1) := by decide +kernel
theorem d_S_remember_0 : decode prog_4_method_6_code 0 = .ok (.aload_n 0, 1) := by decide +kernel
theorem d_S_remember_1 : decode prog_4_method_6_code 1 = .ok (.aload_n 0, 1) := by decide +kernel
theorem d_S_remember_2 : decode prog_4_method_6_code 2 = .ok (.getfield 11, 3) := by decide +kernel
theorem d_S_remember_5 : decode prog_4_method_6_code 5 = .ok (.iconst 1, 1) := by decide +kernel
theorem d_S_remember_6 : decode prog_4_method_6_code 6 = .ok (.lshl, 1) := by decide +kernel
theorem d_S_remember_7 : decode prog_4_method_6_code 7 = .ok (.iload_n 1, 1) := by decide +kernel
theorem d_S_remember_8 : decode prog_4_method_6_code 8 = .ok (.i2l, 1) := by decide +kernel
theorem d_S_remember_9 : decode prog_4_method_6_code 9 = .ok (.lor, 1) := by decide +kernel
theorem d_S_remember_10 : decode prog_4_method_6_code 10 = .ok (.putfield 11, 3) := by decide +kernel
theorem d_S_remember_13 : decode prog_4_method_6_code 13 = .ok (.return_, 1) := by decide +kernel
theorem d_L_empty_0 : decode prog_2_method_2_code 0 = .ok (.aload_n 0, 1) := by decide +kernel
theorem d_L_empty_1 : decode prog_2_method_2_code 1 = .ok (.iconst 0, 1) := by decide +kernel
theorem d_L_empty_2 : decode prog_2_method_2_code 2 = .ok (.putfield 15, 3) := by decide +kernel
theorem d_L_empty_5 : decode prog_2_method_2_code 5 = .ok (.aload_n 0, 1) := by decide +kernel
theorem d_L_empty_6 : decode prog_2_method_2_code 6 = .ok (.iconst 0, 1) := by decide +kernel
theorem d_L_empty_7 : decode prog_2_method_2_code 7 = .ok (.putfield 19, 3) := by decide +kernel
theorem d_L_empty_10 : decode prog_2_method_2_code 10 = .ok (.return_, 1) := by decide +kernel
theorem d_R_countAnew_0 : decode prog_3_method_7_code 0 = .ok (.aload_n 0, 1) := by decide +kernel
theorem d_R_countAnew_1 : decode prog_3_method_7_code 1 = .ok (.iconst 0, 1) := by decide +kernel
theorem d_R_countAnew_2 : decode prog_3_method_7_code 2 = .ok (.putfield 15, 3) := by decide +kernel
theorem d_R_countAnew_5 : decode prog_3_method_7_code 5 = .ok (.aload_n 0, 1) := by decide +kernel
theorem d_R_countAnew_6 : decode prog_3_method_7_code 6 = .ok (.iconst 0, 1) := by decide +kernel
theorem d_R_countAnew_7 : decode prog_3_method_7_code 7 = .ok (.putfield 19, 3) := by decide +kernel
theorem d_R_countAnew_10 : decode prog_3_method_7_code 10 = .ok (.aload_n 0, 1) := by decide +kernel
theorem d_R_countAnew_11 : decode prog_3_method_7_code 11 = .ok (.iconst 0, 1) := by decide +kernel
theorem d_R_countAnew_12 : decode prog_3_method_7_code 12 = .ok (.putfield 23, 3) := by decide +kernel
theorem d_R_countAnew_15 : decode prog_3_method_7_code 15 = .ok (.aload_n 0, 1) := by decide +kernel
theorem d_R_countAnew_16 : decode prog_3_method_7_code 16 = .ok (.iconst 0, 1) := by decide +kernel
theorem d_R_countAnew_17 : decode prog_3_method_7_code 17 = .ok (.putfield 26, 3) := by decide +kernel
theorem d_R_countAnew_20 : decode prog_3_method_7_code 20 = .ok (.return_, 1) := by decide +kernel
theorem d_S_forget_0 : decode prog_4_method_2_code 0 = .ok (.aload_n 0, 1) := by decide +kernel
theorem d_S_forget_1 : decode prog_4_method_2_code 1 = .ok (.ldc2_w 9, 3) := by decide +kernel
theorem d_S_forget_4 : decode prog_4_method_2_code 4 = .ok (.putfield 11, 3) := by decide +kernel
theorem d_S_forget_7 : decode prog_4_method_2_code 7 = .ok (.return_, 1) := by decide +kernel
theorem d_L_hasRoom_0 : decode prog_2_method_7_code 0 = .ok (.iload_n 1, 1) := by decide +kernel
theorem d_L_hasRoom_1 : decode prog_2_method_7_code 1 = .ok (.sipush 2640, 3) := by decide +kernel
theorem d_L_hasRoom_4 : decode prog_2_method_7_code 4 = .ok (.aload_n 0, 1) := by decide +kernel
theorem d_L_hasRoom_5 : decode prog_2_method_7_code 5 = .ok (.getfield 15, 3) := by decide +kernel
theorem d_L_hasRoom_8 : decode prog_2_method_7_code 8 = .ok (.isub, 1) := by decide +kernel
theorem d_L_hasRoom_9 : decode prog_2_method_7_code 9 = .ok (.if_icmp .gt 7, 3) := by decide +kernel
theorem d_L_hasRoom_12 : decode prog_2_method_7_code 12 = .ok (.iconst 1, 1) := by decide +kernel
theorem d_L_hasRoom_13 : decode prog_2_method_7_code 13 = .ok (.goto 4, 3) := by decide +kernel
theorem d_L_hasRoom_16 : decode prog_2_method_7_code 16 = .ok (.iconst 0, 1) := by decide +kernel
theorem d_L_hasRoom_17 : decode prog_2_method_7_code 17 = .ok (.ireturn, 1) := by decide +kernel
theorem d_L_append_0 : decode prog_2_method_10_code 0 = .ok (.iload_n 2, 1) := by decide +kernel
theorem d_L_append_1 : decode prog_2_method_10_code 1 = .ok (.iconst 1, 1) := by decide +kernel
theorem d_L_append_2 : decode prog_2_method_10_code 2 = .ok (.isub, 1) := by decide +kernel
theorem d_L_append_3 : decode prog_2_method_10_code 3 = .ok (.istore_n 3, 1) := by decide +kernel
theorem d_L_append_4 : decode prog_2_method_10_code 4 = .ok (.iload_n 3, 1) := by decide +kernel
theorem d_L_append_5 : decode prog_2_method_10_code 5 = .ok (.ifCond .lt 44, 3) := by decide +kernel
theorem d_L_append_8 : decode prog_2_method_10_code 8 = .ok (.aload_n 0, 1) := by decide +kernel
theorem d_L_append_9 : decode prog_2_method_10_code 9 = .ok (.getfield 15, 3) := by decide +kernel
theorem d_L_append_12 : decode prog_2_method_10_code 12 = .ok (.sipush 2640, 3) := by decide +kernel
theorem d_L_append_15 : decode prog_2_method_10_code 15 = .ok (.if_icmp .ge 34, 3) := by decide +kernel
theorem d_L_append_18 : decode prog_2_method_10_code 18 = .ok (.aload_n 0, 1) := by decide +kernel
theorem d_L_append_19 : decode prog_2_method_10_code 19 = .ok (.getfield 11, 3) := by decide +kernel
theorem d_L_append_22 : decode prog_2_method_10_code 22 = .ok (.aload_n 0, 1) := by decide +kernel
theorem d_L_append_23 : decode prog_2_method_10_code 23 = .ok (.getfield 15, 3) := by decide +kernel
theorem d_L_append_26 : decode prog_2_method_10_code 26 = .ok (.iload_n 1, 1) := by decide +kernel
theorem d_L_append_27 : decode prog_2_method_10_code 27 = .ok (.iload_n 3, 1) := by decide +kernel
theorem d_L_append_28 : decode prog_2_method_10_code 28 = .ok (.iushr, 1) := by decide +kernel
theorem d_L_append_29 : decode prog_2_method_10_code 29 = .ok (.iconst 1, 1) := by decide +kernel
theorem d_L_append_30 : decode prog_2_method_10_code 30 = .ok (.iand, 1) := by decide +kernel
theorem d_L_append_31 : decode prog_2_method_10_code 31 = .ok (.i2b, 1) := by decide +kernel
theorem d_L_append_32 : decode prog_2_method_10_code 32 = .ok (.bastore, 1) := by decide +kernel
theorem d_L_append_33 : decode prog_2_method_10_code 33 = .ok (.aload_n 0, 1) := by decide +kernel
theorem d_L_append_34 : decode prog_2_method_10_code 34 = .ok (.dup, 1) := by decide +kernel
theorem d_L_append_35 : decode prog_2_method_10_code 35 = .ok (.getfield 15, 3) := by decide +kernel
theorem d_L_append_38 : decode prog_2_method_10_code 38 = .ok (.iconst 1, 1) := by decide +kernel
theorem d_L_append_39 : decode prog_2_method_10_code 39 = .ok (.iadd, 1) := by decide +kernel
theorem d_L_append_40 : decode prog_2_method_10_code 40 = .ok (.putfield 15, 3) := by decide +kernel
theorem d_L_append_43 : decode prog_2_method_10_code 43 = .ok (.iinc 3 (-1), 3) := by decide +kernel
theorem d_L_append_46 : decode prog_2_method_10_code 46 = .ok (.goto (-42), 3) := by decide +kernel
theorem d_L_append_49 : decode prog_2_method_10_code 49 = .ok (.return_, 1) := by decide +kernel
theorem d_S_stir_0 : decode prog_4_method_3_code 0 = .ok (.iload_n 1, 1) := by decide +kernel
theorem d_S_stir_1 : decode prog_4_method_3_code 1 = .ok (.aload_n 0, 1) := by decide +kernel
theorem d_S_stir_2 : decode prog_4_method_3_code 2 = .ok (.invokevirtual 15, 3) := by decide +kernel
theorem d_S_stir_5 : decode prog_4_method_3_code 5 = .ok (.ixor, 1) := by decide +kernel
theorem d_S_stir_6 : decode prog_4_method_3_code 6 = .ok (.istore_n 2, 1) := by decide +kernel
theorem d_S_stir_7 : decode prog_4_method_3_code 7 = .ok (.aload_n 0, 1) := by decide +kernel
theorem d_S_stir_8 : decode prog_4_method_3_code 8 = .ok (.iload_n 2, 1) := by decide +kernel
theorem d_S_stir_9 : decode prog_4_method_3_code 9 = .ok (.invokevirtual 19, 3) := by decide +kernel
theorem d_S_stir_12 : decode prog_4_method_3_code 12 = .ok (.iload_n 2, 1) := by decide +kernel
theorem d_S_stir_13 : decode prog_4_method_3_code 13 = .ok (.ireturn, 1) := by decide +kernel
theorem d_L_size_0 : decode prog_2_method_3_code 0 = .ok (.aload_n 0, 1) := by decide +kernel
theorem d_L_size_1 : decode prog_2_method_3_code 1 = .ok (.getfield 15, 3) := by decide +kernel
theorem d_L_size_4 : decode prog_2_method_3_code 4 = .ok (.ireturn, 1) := by decide +kernel
theorem d_L_turn_0 : decode prog_2_method_9_code 0 = .ok (.aload_n 0, 1) := by decide +kernel
theorem d_L_turn_1 : decode prog_2_method_9_code 1 = .ok (.iload_n 1, 1) := by decide +kernel
theorem d_L_turn_2 : decode prog_2_method_9_code 2 = .ok (.invokevirtual 22, 3) := by decide +kernel
theorem d_L_turn_5 : decode prog_2_method_9_code 5 = .ok (.ifCond .eq 18, 3) := by decide +kernel
theorem d_L_turn_8 : decode prog_2_method_9_code 8 = .ok (.aload_n 0, 1) := by decide +kernel
theorem d_L_turn_9 : decode prog_2_method_9_code 9 = .ok (.getfield 11, 3) := by decide +kernel
theorem d_L_turn_12 : decode prog_2_method_9_code 12 = .ok (.iload_n 1, 1) := by decide +kernel
theorem d_L_turn_13 : decode prog_2_method_9_code 13 = .ok (.iconst 1, 1) := by decide +kernel
theorem d_L_turn_14 : decode prog_2_method_9_code 14 = .ok (.aload_n 0, 1) := by decide +kernel
theorem d_L_turn_15 : decode prog_2_method_9_code 15 = .ok (.getfield 11, 3) := by decide +kernel
theorem d_L_turn_18 : decode prog_2_method_9_code 18 = .ok (.iload_n 1, 1) := by decide +kernel
theorem d_L_turn_19 : decode prog_2_method_9_code 19 = .ok (.baload, 1) := by decide +kernel
theorem d_L_turn_20 : decode prog_2_method_9_code 20 = .ok (.isub, 1) := by decide +kernel
theorem d_L_turn_21 : decode prog_2_method_9_code 21 = .ok (.i2b, 1) := by decide +kernel
theorem d_L_turn_22 : decode prog_2_method_9_code 22 = .ok (.bastore, 1) := by decide +kernel
theorem d_L_turn_23 : decode prog_2_method_9_code 23 = .ok (.return_, 1) := by decide +kernel
theorem d_L_place_0 : decode prog_2_method_4_code 0 = .ok (.aload_n 0, 1) := by decide +kernel
theorem d_L_place_1 : decode prog_2_method_4_code 1 = .ok (.getfield 19, 3) := by decide +kernel
theorem d_L_place_4 : decode prog_2_method_4_code 4 = .ok (.ireturn, 1) := by decide +kernel
theorem d_L_remove_0 : decode prog_2_method_11_code 0 = .ok (.aload_n 0, 1) := by decide +kernel
theorem d_L_remove_1 : decode prog_2_method_11_code 1 = .ok (.iload_n 1, 1) := by decide +kernel
theorem d_L_remove_2 : decode prog_2_method_11_code 2 = .ok (.invokevirtual 22, 3) := by decide +kernel
theorem d_L_remove_5 : decode prog_2_method_11_code 5 = .ok (.ifCond .eq 7, 3) := by decide +kernel
theorem d_L_remove_8 : decode prog_2_method_11_code 8 = .ok (.iload_n 2, 1) := by decide +kernel
theorem d_L_remove_9 : decode prog_2_method_11_code 9 = .ok (.ifCond .gt 5, 3) := by decide +kernel
theorem d_L_remove_12 : decode prog_2_method_11_code 12 = .ok (.iconst 0, 1) := by decide +kernel
theorem d_L_remove_13 : decode prog_2_method_11_code 13 = .ok (.ireturn, 1) := by decide +kernel
theorem d_L_remove_14 : decode prog_2_method_11_code 14 = .ok (.iload_n 2, 1) := by decide +kernel
theorem d_L_remove_15 : decode prog_2_method_11_code 15 = .ok (.aload_n 0, 1) := by decide +kernel
theorem d_L_remove_16 : decode prog_2_method_11_code 16 = .ok (.getfield 15, 3) := by decide +kernel
theorem d_L_remove_19 : decode prog_2_method_11_code 19 = .ok (.iload_n 1, 1) := by decide +kernel
theorem d_L_remove_20 : decode prog_2_method_11_code 20 = .ok (.isub, 1) := by decide +kernel
theorem d_L_remove_21 : decode prog_2_method_11_code 21 = .ok (.invokestatic 26, 3) := by decide +kernel
theorem d_L_remove_24 : decode prog_2_method_11_code 24 = .ok (.istore_n 3, 1) := by decide +kernel
theorem d_L_remove_25 : decode prog_2_method_11_code 25 = .ok (.iload_n 1, 1) := by decide +kernel
theorem d_L_remove_26 : decode prog_2_method_11_code 26 = .ok (.iload_n 3, 1) := by decide +kernel
theorem d_L_remove_27 : decode prog_2_method_11_code 27 = .ok (.iadd, 1) := by decide +kernel
theorem d_L_remove_28 : decode prog_2_method_11_code 28 = .ok (.istore 4, 2) := by decide +kernel
theorem d_L_remove_30 : decode prog_2_method_11_code 30 = .ok (.aload_n 0, 1) := by decide +kernel
theorem d_L_remove_31 : decode prog_2_method_11_code 31 = .ok (.getfield 11, 3) := by decide +kernel
theorem d_L_remove_34 : decode prog_2_method_11_code 34 = .ok (.iload 4, 2) := by decide +kernel
theorem d_L_remove_36 : decode prog_2_method_11_code 36 = .ok (.aload_n 0, 1) := by decide +kernel
theorem d_L_remove_37 : decode prog_2_method_11_code 37 = .ok (.getfield 11, 3) := by decide +kernel
theorem d_L_remove_40 : decode prog_2_method_11_code 40 = .ok (.iload_n 1, 1) := by decide +kernel
theorem d_L_remove_41 : decode prog_2_method_11_code 41 = .ok (.aload_n 0, 1) := by decide +kernel
theorem d_L_remove_42 : decode prog_2_method_11_code 42 = .ok (.getfield 15, 3) := by decide +kernel
theorem d_L_remove_45 : decode prog_2_method_11_code 45 = .ok (.iload 4, 2) := by decide +kernel
theorem d_L_remove_47 : decode prog_2_method_11_code 47 = .ok (.isub, 1) := by decide +kernel
theorem d_L_remove_48 : decode prog_2_method_11_code 48 = .ok (.invokestatic 32, 3) := by decide +kernel
theorem d_L_remove_51 : decode prog_2_method_11_code 51 = .ok (.aload_n 0, 1) := by decide +kernel
theorem d_L_remove_52 : decode prog_2_method_11_code 52 = .ok (.dup, 1) := by decide +kernel
theorem d_L_remove_53 : decode prog_2_method_11_code 53 = .ok (.getfield 15, 3) := by decide +kernel
theorem d_L_remove_56 : decode prog_2_method_11_code 56 = .ok (.iload_n 3, 1) := by decide +kernel
theorem d_L_remove_57 : decode prog_2_method_11_code 57 = .ok (.isub, 1) := by decide +kernel
theorem d_L_remove_58 : decode prog_2_method_11_code 58 = .ok (.putfield 15, 3) := by decide +kernel
theorem d_L_remove_61 : decode prog_2_method_11_code 61 = .ok (.iload_n 3, 1) := by decide +kernel
theorem d_L_remove_62 : decode prog_2_method_11_code 62 = .ok (.ireturn, 1) := by decide +kernel
theorem d_R_isFollowing_0 : decode prog_3_method_3_code 0 = .ok (.aload_n 0, 1) := by decide +kernel
theorem d_R_isFollowing_1 : decode prog_3_method_3_code 1 = .ok (.getfield 15, 3) := by decide +kernel
theorem d_R_isFollowing_4 : decode prog_3_method_3_code 4 = .ok (.ireturn, 1) := by decide +kernel
theorem d_R_slips_0 : decode prog_3_method_4_code 0 = .ok (.aload_n 0, 1) := by decide +kernel
theorem d_R_slips_1 : decode prog_3_method_4_code 1 = .ok (.getfield 19, 3) := by decide +kernel
theorem d_R_slips_4 : decode prog_3_method_4_code 4 = .ok (.ireturn, 1) := by decide +kernel
theorem d_R_bads_0 : decode prog_3_method_5_code 0 = .ok (.aload_n 0, 1) := by decide +kernel
theorem d_R_bads_1 : decode prog_3_method_5_code 1 = .ok (.getfield 23, 3) := by decide +kernel
theorem d_R_bads_4 : decode prog_3_method_5_code 4 = .ok (.ireturn, 1) := by decide +kernel
theorem d_R_wrongs_0 : decode prog_3_method_6_code 0 = .ok (.aload_n 0, 1) := by decide +kernel
theorem d_R_wrongs_1 : decode prog_3_method_6_code 1 = .ok (.getfield 26, 3) := by decide +kernel
theorem d_R_wrongs_4 : decode prog_3_method_6_code 4 = .ok (.ireturn, 1) := by decide +kernel
theorem d_L_onesLessZeros_0 : decode prog_2_method_14_code 0 = .ok (.iconst 0, 1) := by decide +kernel
theorem d_L_onesLessZeros_1 : decode prog_2_method_14_code 1 = .ok (.istore_n 1, 1) := by decide +kernel
theorem d_L_onesLessZeros_2 : decode prog_2_method_14_code 2 = .ok (.iconst 0, 1) := by decide +kernel
theorem d_L_onesLessZeros_3 : decode prog_2_method_14_code 3 = .ok (.istore_n 2, 1) := by decide +kernel
theorem d_L_onesLessZeros_4 : decode prog_2_method_14_code 4 = .ok (.iload_n 2, 1) := by decide +kernel
theorem d_L_onesLessZeros_5 : decode prog_2_method_14_code 5 = .ok (.aload_n 0, 1) := by decide +kernel
theorem d_L_onesLessZeros_6 : decode prog_2_method_14_code 6 = .ok (.getfield 15, 3) := by decide +kernel
theorem d_L_onesLessZeros_9 : decode prog_2_method_14_code 9 = .ok (.if_icmp .ge 27, 3) := by decide +kernel
theorem d_L_onesLessZeros_12 : decode prog_2_method_14_code 12 = .ok (.iload_n 1, 1) := by decide +kernel
theorem d_L_onesLessZeros_13 : decode prog_2_method_14_code 13 = .ok (.aload_n 0, 1) := by decide +kernel
theorem d_L_onesLessZeros_14 : decode prog_2_method_14_code 14 = .ok (.getfield 11, 3) := by decide +kernel
theorem d_L_onesLessZeros_17 : decode prog_2_method_14_code 17 = .ok (.iload_n 2, 1) := by decide +kernel
theorem d_L_onesLessZeros_18 : decode prog_2_method_14_code 18 = .ok (.baload, 1) := by decide +kernel
theorem d_L_onesLessZeros_19 : decode prog_2_method_14_code 19 = .ok (.iconst 1, 1) := by decide +kernel
theorem d_L_onesLessZeros_20 : decode prog_2_method_14_code 20 = .ok (.if_icmp .ne 7, 3) := by decide +kernel
theorem d_L_onesLessZeros_23 : decode prog_2_method_14_code 23 = .ok (.iconst 1, 1) := by decide +kernel
theorem d_L_onesLessZeros_24 : decode prog_2_method_14_code 24 = .ok (.goto 4, 3) := by decide +kernel
theorem d_L_onesLessZeros_27 : decode prog_2_method_14_code 27 = .ok (.iconst (-1), 1) := by decide +kernel
theorem d_L_onesLessZeros_28 : decode prog_2_method_14_code 28 = .ok (.iadd, 1) := by decide +kernel
theorem d_L_onesLessZeros_29 : decode prog_2_method_14_code 29 = .ok (.istore_n 1, 1) := by decide +kernel
theorem d_L_onesLessZeros_30 : decode prog_2_method_14_code 30 = .ok (.iinc 2 1, 3) := by decide +kernel
theorem d_L_onesLessZeros_33 : decode prog_2_method_14_code 33 = .ok (.goto (-29), 3) := by decide +kernel
theorem d_L_onesLessZeros_36 : decode prog_2_method_14_code 36 = .ok (.iload_n 1, 1) := by decide +kernel
theorem d_L_onesLessZeros_37 : decode prog_2_method_14_code 37 = .ok (.ireturn, 1) := by decide +kernel
theorem d_L_longestRun_0 : decode prog_2_method_15_code 0 = .ok (.iconst 0, 1) := by decide +kernel
theorem d_L_longestRun_1 : decode prog_2_method_15_code 1 = .ok (.istore_n 1, 1) := by decide +kernel
theorem d_L_longestRun_2 : decode prog_2_method_15_code 2 = .ok (.iconst 0, 1) := by decide +kernel
theorem d_L_longestRun_3 : decode prog_2_method_15_code 3 = .ok (.istore_n 2, 1) := by decide +kernel
theorem d_L_longestRun_4 : decode prog_2_method_15_code 4 = .ok (.iconst 0, 1) := by decide +kernel
theorem d_L_longestRun_5 : decode prog_2_method_15_code 5 = .ok (.istore_n 3, 1) := by decide +kernel
theorem d_L_longestRun_6 : decode prog_2_method_15_code 6 = .ok (.iload_n 3, 1) := by decide +kernel
theorem d_L_longestRun_7 : decode prog_2_method_15_code 7 = .ok (.aload_n 0, 1) := by decide +kernel
theorem d_L_longestRun_8 : decode prog_2_method_15_code 8 = .ok (.getfield 15, 3) := by decide +kernel
theorem d_L_longestRun_11 : decode prog_2_method_15_code 11 = .ok (.if_icmp .ge 44, 3) := by decide +kernel
theorem d_L_longestRun_14 : decode prog_2_method_15_code 14 = .ok (.iload_n 3, 1) := by decide +kernel
theorem d_L_longestRun_15 : decode prog_2_method_15_code 15 = .ok (.ifCond .le 26, 3) := by decide +kernel
theorem d_L_longestRun_18 : decode prog_2_method_15_code 18 = .ok (.aload_n 0, 1) := by decide +kernel
theorem d_L_longestRun_19 : decode prog_2_method_15_code 19 = .ok (.getfield 11, 3) := by decide +kernel
theorem d_L_longestRun_22 : decode prog_2_method_15_code 22 = .ok (.iload_n 3, 1) := by decide +kernel
theorem d_L_longestRun_23 : decode prog_2_method_15_code 23 = .ok (.baload, 1) := by decide +kernel
theorem d_L_longestRun_24 : decode prog_2_method_15_code 24 = .ok (.aload_n 0, 1) := by decide +kernel
theorem d_L_longestRun_25 : decode prog_2_method_15_code 25 = .ok (.getfield 11, 3) := by decide +kernel
theorem d_L_longestRun_28 : decode prog_2_method_15_code 28 = .ok (.iload_n 3, 1) := by decide +kernel
theorem d_L_longestRun_29 : decode prog_2_method_15_code 29 = .ok (.iconst 1, 1) := by decide +kernel
theorem d_L_longestRun_30 : decode prog_2_method_15_code 30 = .ok (.isub, 1) := by decide +kernel
theorem d_L_longestRun_31 : decode prog_2_method_15_code 31 = .ok (.baload, 1) := by decide +kernel
theorem d_L_longestRun_32 : decode prog_2_method_15_code 32 = .ok (.if_icmp .ne 9, 3) := by decide +kernel
theorem d_L_longestRun_35 : decode prog_2_method_15_code 35 = .ok (.iload_n 2, 1) := by decide +kernel
theorem d_L_longestRun_36 : decode prog_2_method_15_code 36 = .ok (.iconst 1, 1) := by decide +kernel
theorem d_L_longestRun_37 : decode prog_2_method_15_code 37 = .ok (.iadd, 1) := by decide +kernel
theorem d_L_longestRun_38 : decode prog_2_method_15_code 38 = .ok (.goto 4, 3) := by decide +kernel
theorem d_L_longestRun_41 : decode prog_2_method_15_code 41 = .ok (.iconst 1, 1) := by decide +kernel
theorem d_L_longestRun_42 : decode prog_2_method_15_code 42 = .ok (.istore_n 2, 1) := by decide +kernel
theorem d_L_longestRun_43 : decode prog_2_method_15_code 43 = .ok (.iload_n 1, 1) := by decide +kernel
theorem d_L_longestRun_44 : decode prog_2_method_15_code 44 = .ok (.iload_n 2, 1) := by decide +kernel
theorem d_L_longestRun_45 : decode prog_2_method_15_code 45 = .ok (.invokestatic 46, 3) := by decide +kernel
theorem d_L_longestRun_48 : decode prog_2_method_15_code 48 = .ok (.istore_n 1, 1) := by decide +kernel
theorem d_L_longestRun_49 : decode prog_2_method_15_code 49 = .ok (.iinc 3 1, 3) := by decide +kernel
theorem d_L_longestRun_52 : decode prog_2_method_15_code 52 = .ok (.goto (-46), 3) := by decide +kernel
theorem d_L_longestRun_55 : decode prog_2_method_15_code 55 = .ok (.iload_n 1, 1) := by decide +kernel
theorem d_L_longestRun_56 : decode prog_2_method_15_code 56 = .ok (.ireturn, 1) := by decide +kernel
end
section
theorem d_JM_min_0 : decode prog_16_method_69_code 0 = .ok (.iload_n 0, 1) := by decide +kernel
theorem d_JM_min_1 : decode prog_16_method_69_code 1 = .ok (.iload_n 1, 1) := by decide +kernel
theorem d_JM_min_2 : decode prog_16_method_69_code 2 = .ok (.if_icmp .gt 7, 3) := by decide +kernel
theorem d_JM_min_5 : decode prog_16_method_69_code 5 = .ok (.iload_n 0, 1) := by decide +kernel
theorem d_JM_min_6 : decode prog_16_method_69_code 6 = .ok (.goto 4, 3) := by decide +kernel
theorem d_JM_min_9 : decode prog_16_method_69_code 9 = .ok (.iload_n 1, 1) := by decide +kernel
theorem d_JM_min_10 : decode prog_16_method_69_code 10 = .ok (.ireturn, 1) := by decide +kernel
theorem d_K_decode_0 : decode prog_5_method_4_code 0 = .ok (.iload_n 0, 1) := by decide +kernel
theorem d_K_decode_1 : decode prog_5_method_4_code 1 = .ok (.iconst 4, 1) := by decide +kernel
theorem d_K_decode_2 : decode prog_5_method_4_code 2 = .ok (.ishr, 1) := by decide +kernel
theorem d_K_decode_3 : decode prog_5_method_4_code 3 = .ok (.iload_n 1, 1) := by decide +kernel
theorem d_K_decode_4 : decode prog_5_method_4_code 4 = .ok (.invokestatic 27, 3) := by decide +kernel
theorem d_K_decode_7 : decode prog_5_method_4_code 7 = .ok (.istore_n 2, 1) := by decide +kernel
theorem d_K_decode_8 : decode prog_5_method_4_code 8 = .ok (.iload_n 2, 1) := by decide +kernel
theorem d_K_decode_9 : decode prog_5_method_4_code 9 = .ok (.iconst (-1), 1) := by decide +kernel
theorem d_K_decode_10 : decode prog_5_method_4_code 10 = .ok (.if_icmp .ne 5, 3) := by decide +kernel
theorem d_K_decode_13 : decode prog_5_method_4_code 13 = .ok (.iconst (-1), 1) := by decide +kernel
theorem d_K_decode_14 : decode prog_5_method_4_code 14 = .ok (.ireturn, 1) := by decide +kernel
theorem d_K_decode_15 : decode prog_5_method_4_code 15 = .ok (.iload_n 2, 1) := by decide +kernel
theorem d_K_decode_16 : decode prog_5_method_4_code 16 = .ok (.istore_n 3, 1) := by decide +kernel
theorem d_K_decode_17 : decode prog_5_method_4_code 17 = .ok (.iload_n 3, 1) := by decide +kernel
theorem d_K_decode_18 : decode prog_5_method_4_code 18 = .ok (.sipush 512, 3) := by decide +kernel
theorem d_K_decode_21 : decode prog_5_method_4_code 21 = .ok (.if_icmp .ge 27, 3) := by decide +kernel
theorem d_K_decode_24 : decode prog_5_method_4_code 24 = .ok (.iload_n 3, 1) := by decide +kernel
theorem d_K_decode_25 : decode prog_5_method_4_code 25 = .ok (.invokestatic 30, 3) := by decide +kernel
theorem d_K_decode_28 : decode prog_5_method_4_code 28 = .ok (.ifCond .eq 14, 3) := by decide +kernel
theorem d_K_decode_31 : decode prog_5_method_4_code 31 = .ok (.iload_n 3, 1) := by decide +kernel
theorem d_K_decode_32 : decode prog_5_method_4_code 32 = .ok (.iload_n 1, 1) := by decide +kernel
theorem d_K_decode_33 : decode prog_5_method_4_code 33 = .ok (.invokestatic 34, 3) := by decide +kernel
theorem d_K_decode_36 : decode prog_5_method_4_code 36 = .ok (.iload_n 0, 1) := by decide +kernel
theorem d_K_decode_37 : decode prog_5_method_4_code 37 = .ok (.if_icmp .ne 5, 3) := by decide +kernel
theorem d_K_decode_40 : decode prog_5_method_4_code 40 = .ok (.iload_n 3, 1) := by decide +kernel
theorem d_K_decode_41 : decode prog_5_method_4_code 41 = .ok (.ireturn, 1) := by decide +kernel
theorem d_K_decode_42 : decode prog_5_method_4_code 42 = .ok (.iinc 3 32, 3) := by decide +kernel
theorem d_K_decode_45 : decode prog_5_method_4_code 45 = .ok (.goto (-28), 3) := by decide +kernel
theorem d_K_decode_48 : decode prog_5_method_4_code 48 = .ok (.iconst (-1), 1) := by decide +kernel
theorem d_K_decode_49 : decode prog_5_method_4_code 49 = .ok (.ireturn, 1) := by decide +kernel
theorem d_K_xOf_0 : decode prog_5_method_7_code 0 = .ok (.iconst 0, 1) := by decide +kernel
theorem d_K_xOf_1 : decode prog_5_method_7_code 1 = .ok (.istore_n 2, 1) := by decide +kernel
theorem d_K_xOf_2 : decode prog_5_method_7_code 2 = .ok (.iload_n 2, 1) := by decide +kernel
theorem d_K_xOf_3 : decode prog_5_method_7_code 3 = .ok (.bipush 32, 2) := by decide +kernel
theorem d_K_xOf_5 : decode prog_5_method_7_code 5 = .ok (.if_icmp .ge 33, 3) := by decide +kernel
theorem d_K_xOf_8 : decode prog_5_method_7_code 8 = .ok (.iload_n 2, 1) := by decide +kernel
theorem d_K_xOf_9 : decode prog_5_method_7_code 9 = .ok (.iload_n 1, 1) := by decide +kernel
theorem d_K_xOf_10 : decode prog_5_method_7_code 10 = .ok (.invokestatic 16, 3) := by decide +kernel
theorem d_K_xOf_13 : decode prog_5_method_7_code 13 = .ok (.iload_n 0, 1) := by decide +kernel
theorem d_K_xOf_14 : decode prog_5_method_7_code 14 = .ok (.if_icmp .eq 16, 3) := by decide +kernel
theorem d_K_xOf_17 : decode prog_5_method_7_code 17 = .ok (.sipush 256, 3) := by decide +kernel
theorem d_K_xOf_20 : decode prog_5_method_7_code 20 = .ok (.iload_n 2, 1) := by decide +kernel
theorem d_K_xOf_21 : decode prog_5_method_7_code 21 = .ok (.iadd, 1) := by decide +kernel
theorem d_K_xOf_22 : decode prog_5_method_7_code 22 = .ok (.iload_n 1, 1) := by decide +kernel
theorem d_K_xOf_23 : decode prog_5_method_7_code 23 = .ok (.invokestatic 16, 3) := by decide +kernel
theorem d_K_xOf_26 : decode prog_5_method_7_code 26 = .ok (.iload_n 0, 1) := by decide +kernel
theorem d_K_xOf_27 : decode prog_5_method_7_code 27 = .ok (.if_icmp .ne 5, 3) := by decide +kernel
theorem d_K_xOf_30 : decode prog_5_method_7_code 30 = .ok (.iload_n 2, 1) := by decide +kernel
theorem d_K_xOf_31 : decode prog_5_method_7_code 31 = .ok (.ireturn, 1) := by decide +kernel
theorem d_K_xOf_32 : decode prog_5_method_7_code 32 = .ok (.iinc 2 1, 3) := by decide +kernel
theorem d_K_xOf_35 : decode prog_5_method_7_code 35 = .ok (.goto (-33), 3) := by decide +kernel
theorem d_K_xOf_38 : decode prog_5_method_7_code 38 = .ok (.iconst (-1), 1) := by decide +kernel
theorem d_K_xOf_39 : decode prog_5_method_7_code 39 = .ok (.ireturn, 1) := by decide +kernel
theorem d_K_sixOf_0 : decode prog_5_method_8_code 0 = .ok (.iload_n 0, 1) := by decide +kernel
theorem d_K_sixOf_1 : decode prog_5_method_8_code 1 = .ok (.bipush 31, 2) := by decide +kernel
theorem d_K_sixOf_3 : decode prog_5_method_8_code 3 = .ok (.iand, 1) := by decide +kernel
theorem d_K_sixOf_4 : decode prog_5_method_8_code 4 = .ok (.istore_n 2, 1) := by decide +kernel
theorem d_K_sixOf_5 : decode prog_5_method_8_code 5 = .ok (.iload_n 0, 1) := by decide +kernel
theorem d_K_sixOf_6 : decode prog_5_method_8_code 6 = .ok (.sipush 256, 3) := by decide +kernel
theorem d_K_sixOf_9 : decode prog_5_method_8_code 9 = .ok (.if_icmp .lt 14, 3) := by decide +kernel
theorem d_K_sixOf_12 : decode prog_5_method_8_code 12 = .ok (.iload_n 2, 1) := by decide +kernel
theorem d_K_sixOf_13 : decode prog_5_method_8_code 13 = .ok (.bipush 28, 2) := by decide +kernel
theorem d_K_sixOf_15 : decode prog_5_method_8_code 15 = .ok (.if_icmp .ne 8, 3) := by decide +kernel
theorem d_K_sixOf_18 : decode prog_5_method_8_code 18 = .ok (.bipush 15, 2) := by decide +kernel
theorem d_K_sixOf_20 : decode prog_5_method_8_code 20 = .ok (.goto 8, 3) := by decide +kernel
theorem d_K_sixOf_23 : decode prog_5_method_8_code 23 = .ok (.getstatic 40, 3) := by decide +kernel
theorem d_K_sixOf_26 : decode prog_5_method_8_code 26 = .ok (.iload_n 2, 1) := by decide +kernel
theorem d_K_sixOf_27 : decode prog_5_method_8_code 27 = .ok (.iaload, 1) := by decide +kernel
theorem d_K_sixOf_28 : decode prog_5_method_8_code 28 = .ok (.istore_n 3, 1) := by decide +kernel
theorem d_K_sixOf_29 : decode prog_5_method_8_code 29 = .ok (.iload_n 3, 1) := by decide +kernel
theorem d_K_sixOf_30 : decode prog_5_method_8_code 30 = .ok (.invokestatic 44, 3) := by decide +kernel
theorem d_K_sixOf_33 : decode prog_5_method_8_code 33 = .ok (.iconst 3, 1) := by decide +kernel
theorem d_K_sixOf_34 : decode prog_5_method_8_code 34 = .ok (.if_icmp .ne 9, 3) := by decide +kernel
theorem d_K_sixOf_37 : decode prog_5_method_8_code 37 = .ok (.iload_n 3, 1) := by decide +kernel
theorem d_K_sixOf_38 : decode prog_5_method_8_code 38 = .ok (.bipush 56, 2) := by decide +kernel
theorem d_K_sixOf_40 : decode prog_5_method_8_code 40 = .ok (.if_icmp .ne 7, 3) := by decide +kernel
theorem d_K_sixOf_43 : decode prog_5_method_8_code 43 = .ok (.iconst 1, 1) := by decide +kernel
theorem d_K_sixOf_44 : decode prog_5_method_8_code 44 = .ok (.goto 4, 3) := by decide +kernel
theorem d_K_sixOf_47 : decode prog_5_method_8_code 47 = .ok (.iconst 0, 1) := by decide +kernel
theorem d_K_sixOf_48 : decode prog_5_method_8_code 48 = .ok (.istore 4, 2) := by decide +kernel
theorem d_K_sixOf_50 : decode prog_5_method_8_code 50 = .ok (.iload_n 1, 1) := by decide +kernel
theorem d_K_sixOf_51 : decode prog_5_method_8_code 51 = .ok (.ifCond .eq 15, 3) := by decide +kernel
theorem d_K_sixOf_54 : decode prog_5_method_8_code 54 = .ok (.iload 4, 2) := by decide +kernel
theorem d_K_sixOf_56 : decode prog_5_method_8_code 56 = .ok (.ifCond .eq 10, 3) := by decide +kernel
theorem d_K_sixOf_59 : decode prog_5_method_8_code 59 = .ok (.iload_n 3, 1) := by decide +kernel
theorem d_K_sixOf_60 : decode prog_5_method_8_code 60 = .ok (.bipush 63, 2) := by decide +kernel
theorem d_K_sixOf_62 : decode prog_5_method_8_code 62 = .ok (.ixor, 1) := by decide +kernel
theorem d_K_sixOf_63 : decode prog_5_method_8_code 63 = .ok (.goto 4, 3) := by decide +kernel
theorem d_K_sixOf_66 : decode prog_5_method_8_code 66 = .ok (.iload_n 3, 1) := by decide +kernel
theorem d_K_sixOf_67 : decode prog_5_method_8_code 67 = .ok (.ireturn, 1) := by decide +kernel
theorem d_JI_bitCount_0 : decode prog_15_method_49_code 0 = .ok (.iload_n 0, 1) := by decide +kernel
theorem d_JI_bitCount_1 : decode prog_15_method_49_code 1 = .ok (.iload_n 0, 1) := by decide +kernel
theorem d_JI_bitCount_2 : decode prog_15_method_49_code 2 = .ok (.iconst 1, 1) := by decide +kernel
theorem d_JI_bitCount_3 : decode prog_15_method_49_code 3 = .ok (.iushr, 1) := by decide +kernel
theorem d_JI_bitCount_4 : decode prog_15_method_49_code 4 = .ok (.ldc_w 265, 3) := by decide +kernel
theorem d_JI_bitCount_7 : decode prog_15_method_49_code 7 = .ok (.iand, 1) := by decide +kernel
theorem d_JI_bitCount_8 : decode prog_15_method_49_code 8 = .ok (.isub, 1) := by decide +kernel
theorem d_JI_bitCount_9 : decode prog_15_method_49_code 9 = .ok (.istore_n 0, 1) := by decide +kernel
theorem d_JI_bitCount_10 : decode prog_15_method_49_code 10 = .ok (.iload_n 0, 1) := by decide +kernel
theorem d_JI_bitCount_11 : decode prog_15_method_49_code 11 = .ok (.ldc_w 266, 3) := by decide +kernel
theorem d_JI_bitCount_14 : decode prog_15_method_49_code 14 = .ok (.iand, 1) := by decide +kernel
theorem d_JI_bitCount_15 : decode prog_15_method_49_code 15 = .ok (.iload_n 0, 1) := by decide +kernel
theorem d_JI_bitCount_16 : decode prog_15_method_49_code 16 = .ok (.iconst 2, 1) := by decide +kernel
theorem d_JI_bitCount_17 : decode prog_15_method_49_code 17 = .ok (.iushr, 1) := by decide +kernel
theorem d_JI_bitCount_18 : decode prog_15_method_49_code 18 = .ok (.ldc_w 266, 3) := by decide +kernel
theorem d_JI_bitCount_21 : decode prog_15_method_49_code 21 = .ok (.iand, 1) := by decide +kernel
theorem d_JI_bitCount_22 : decode prog_15_method_49_code 22 = .ok (.iadd, 1) := by decide +kernel
theorem d_JI_bitCount_23 : decode prog_15_method_49_code 23 = .ok (.istore_n 0, 1) := by decide +kernel
theorem d_JI_bitCount_24 : decode prog_15_method_49_code 24 = .ok (.iload_n 0, 1) := by decide +kernel
theorem d_JI_bitCount_25 : decode prog_15_method_49_code 25 = .ok (.iload_n 0, 1) := by decide +kernel
theorem d_JI_bitCount_26 : decode prog_15_method_49_code 26 = .ok (.iconst 4, 1) := by decide +kernel
theorem d_JI_bitCount_27 : decode prog_15_method_49_code 27 = .ok (.iushr, 1) := by decide +kernel
theorem d_JI_bitCount_28 : decode prog_15_method_49_code 28 = .ok (.iadd, 1) := by decide +kernel
theorem d_JI_bitCount_29 : decode prog_15_method_49_code 29 = .ok (.ldc_w 267, 3) := by decide +kernel
theorem d_JI_bitCount_32 : decode prog_15_method_49_code 32 = .ok (.iand, 1) := by decide +kernel
theorem d_JI_bitCount_33 : decode prog_15_method_49_code 33 = .ok (.istore_n 0, 1) := by decide +kernel
theorem d_JI_bitCount_34 : decode prog_15_method_49_code 34 = .ok (.iload_n 0, 1) := by decide +kernel
theorem d_JI_bitCount_35 : decode prog_15_method_49_code 35 = .ok (.iload_n 0, 1) := by decide +kernel
theorem d_JI_bitCount_36 : decode prog_15_method_49_code 36 = .ok (.bipush 8, 2) := by decide +kernel
theorem d_JI_bitCount_38 : decode prog_15_method_49_code 38 = .ok (.iushr, 1) := by decide +kernel
theorem d_JI_bitCount_39 : decode prog_15_method_49_code 39 = .ok (.iadd, 1) := by decide +kernel
theorem d_JI_bitCount_40 : decode prog_15_method_49_code 40 = .ok (.istore_n 0, 1) := by decide +kernel
theorem d_JI_bitCount_41 : decode prog_15_method_49_code 41 = .ok (.iload_n 0, 1) := by decide +kernel
theorem d_JI_bitCount_42 : decode prog_15_method_49_code 42 = .ok (.iload_n 0, 1) := by decide +kernel
theorem d_JI_bitCount_43 : decode prog_15_method_49_code 43 = .ok (.bipush 16, 2) := by decide +kernel
theorem d_JI_bitCount_45 : decode prog_15_method_49_code 45 = .ok (.iushr, 1) := by decide +kernel
theorem d_JI_bitCount_46 : decode prog_15_method_49_code 46 = .ok (.iadd, 1) := by decide +kernel
theorem d_JI_bitCount_47 : decode prog_15_method_49_code 47 = .ok (.istore_n 0, 1) := by decide +kernel
theorem d_JI_bitCount_48 : decode prog_15_method_49_code 48 = .ok (.iload_n 0, 1) := by decide +kernel
theorem d_JI_bitCount_49 : decode prog_15_method_49_code 49 = .ok (.bipush 63, 2) := by decide +kernel
theorem d_JI_bitCount_51 : decode prog_15_method_49_code 51 = .ok (.iand, 1) := by decide +kernel
theorem d_JI_bitCount_52 : decode prog_15_method_49_code 52 = .ok (.ireturn, 1) := by decide +kernel
theorem d_K_isSymbol_0 : decode prog_5_method_2_code 0 = .ok (.iload_n 0, 1) := by decide +kernel
theorem d_K_isSymbol_1 : decode prog_5_method_2_code 1 = .ok (.ifCond .lt 10, 3) := by decide +kernel
theorem d_K_isSymbol_4 : decode prog_5_method_2_code 4 = .ok (.iload_n 0, 1) := by decide +kernel
theorem d_K_isSymbol_5 : decode prog_5_method_2_code 5 = .ok (.sipush 512, 3) := by decide +kernel
theorem d_K_isSymbol_8 : decode prog_5_method_2_code 8 = .ok (.if_icmp .lt 5, 3) := by decide +kernel
theorem d_K_isSymbol_11 : decode prog_5_method_2_code 11 = .ok (.iconst 0, 1) := by decide +kernel
theorem d_K_isSymbol_12 : decode prog_5_method_2_code 12 = .ok (.ireturn, 1) := by decide +kernel
theorem d_K_isSymbol_13 : decode prog_5_method_2_code 13 = .ok (.iload_n 0, 1) := by decide +kernel
theorem d_K_isSymbol_14 : decode prog_5_method_2_code 14 = .ok (.bipush 31, 2) := by decide +kernel
theorem d_K_isSymbol_16 : decode prog_5_method_2_code 16 = .ok (.iand, 1) := by decide +kernel
theorem d_K_isSymbol_17 : decode prog_5_method_2_code 17 = .ok (.istore_n 1, 1) := by decide +kernel
theorem d_K_isSymbol_18 : decode prog_5_method_2_code 18 = .ok (.iload_n 0, 1) := by decide +kernel
theorem d_K_isSymbol_19 : decode prog_5_method_2_code 19 = .ok (.iconst 5, 1) := by decide +kernel
theorem d_K_isSymbol_20 : decode prog_5_method_2_code 20 = .ok (.ishr, 1) := by decide +kernel
theorem d_K_isSymbol_21 : decode prog_5_method_2_code 21 = .ok (.bipush 7, 2) := by decide +kernel
theorem d_K_isSymbol_23 : decode prog_5_method_2_code 23 = .ok (.iand, 1) := by decide +kernel
theorem d_K_isSymbol_24 : decode prog_5_method_2_code 24 = .ok (.istore_n 2, 1) := by decide +kernel
theorem d_K_isSymbol_25 : decode prog_5_method_2_code 25 = .ok (.iload_n 0, 1) := by decide +kernel
theorem d_K_isSymbol_26 : decode prog_5_method_2_code 26 = .ok (.sipush 256, 3) := by decide +kernel
theorem d_K_isSymbol_29 : decode prog_5_method_2_code 29 = .ok (.if_icmp .lt 24, 3) := by decide +kernel
theorem d_K_isSymbol_32 : decode prog_5_method_2_code 32 = .ok (.iload_n 1, 1) := by decide +kernel
theorem d_K_isSymbol_33 : decode prog_5_method_2_code 33 = .ok (.bipush 28, 2) := by decide +kernel
theorem d_K_isSymbol_35 : decode prog_5_method_2_code 35 = .ok (.if_icmp .eq 18, 3) := by decide +kernel
theorem d_K_isSymbol_38 : decode prog_5_method_2_code 38 = .ok (.iload_n 2, 1) := by decide +kernel
theorem d_K_isSymbol_39 : decode prog_5_method_2_code 39 = .ok (.bipush 7, 2) := by decide +kernel
theorem d_K_isSymbol_41 : decode prog_5_method_2_code 41 = .ok (.if_icmp .ne 16, 3) := by decide +kernel
theorem d_K_isSymbol_44 : decode prog_5_method_2_code 44 = .ok (.iload_n 1, 1) := by decide +kernel
theorem d_K_isSymbol_45 : decode prog_5_method_2_code 45 = .ok (.ldc 11, 2) := by decide +kernel
theorem d_K_isSymbol_47 : decode prog_5_method_2_code 47 = .ok (.invokestatic 12, 3) := by decide +kernel
theorem d_K_isSymbol_50 : decode prog_5_method_2_code 50 = .ok (.ifCond .eq 7, 3) := by decide +kernel
theorem d_K_isSymbol_53 : decode prog_5_method_2_code 53 = .ok (.iconst 1, 1) := by decide +kernel
theorem d_K_isSymbol_54 : decode prog_5_method_2_code 54 = .ok (.goto 4, 3) := by decide +kernel
theorem d_K_isSymbol_57 : decode prog_5_method_2_code 57 = .ok (.iconst 0, 1) := by decide +kernel
theorem d_K_isSymbol_58 : decode prog_5_method_2_code 58 = .ok (.ireturn, 1) := by decide +kernel
theorem d_K_isAmong_0 : decode prog_5_method_6_code 0 = .ok (.iload_n 1, 1) := by decide +kernel
theorem d_K_isAmong_1 : decode prog_5_method_6_code 1 = .ok (.iload_n 0, 1) := by decide +kernel
theorem d_K_isAmong_2 : decode prog_5_method_6_code 2 = .ok (.iushr, 1) := by decide +kernel
theorem d_K_isAmong_3 : decode prog_5_method_6_code 3 = .ok (.iconst 1, 1) := by decide +kernel
theorem d_K_isAmong_4 : decode prog_5_method_6_code 4 = .ok (.iand, 1) := by decide +kernel
theorem d_K_isAmong_5 : decode prog_5_method_6_code 5 = .ok (.iconst 1, 1) := by decide +kernel
theorem d_K_isAmong_6 : decode prog_5_method_6_code 6 = .ok (.if_icmp .ne 7, 3) := by decide +kernel
theorem d_K_isAmong_9 : decode prog_5_method_6_code 9 = .ok (.iconst 1, 1) := by decide +kernel
theorem d_K_isAmong_10 : decode prog_5_method_6_code 10 = .ok (.goto 4, 3) := by decide +kernel
theorem d_K_isAmong_13 : decode prog_5_method_6_code 13 = .ok (.iconst 0, 1) := by decide +kernel
theorem d_K_isAmong_14 : decode prog_5_method_6_code 14 = .ok (.ireturn, 1) := by decide +kernel
theorem d_K_encode_0 : decode prog_5_method_3_code 0 = .ok (.iload_n 0, 1) := by decide +kernel
theorem d_K_encode_1 : decode prog_5_method_3_code 1 = .ok (.iload_n 1, 1) := by decide +kernel
theorem d_K_encode_2 : decode prog_5_method_3_code 2 = .ok (.invokestatic 16, 3) := by decide +kernel
theorem d_K_encode_5 : decode prog_5_method_3_code 5 = .ok (.istore_n 2, 1) := by decide +kernel
theorem d_K_encode_6 : decode prog_5_method_3_code 6 = .ok (.iload_n 0, 1) := by decide +kernel
theorem d_K_encode_7 : decode prog_5_method_3_code 7 = .ok (.iload_n 2, 1) := by decide +kernel
theorem d_K_encode_8 : decode prog_5_method_3_code 8 = .ok (.iload_n 1, 1) := by decide +kernel
theorem d_K_encode_9 : decode prog_5_method_3_code 9 = .ok (.invokestatic 20, 3) := by decide +kernel
theorem d_K_encode_12 : decode prog_5_method_3_code 12 = .ok (.invokestatic 24, 3) := by decide +kernel
theorem d_K_encode_15 : decode prog_5_method_3_code 15 = .ok (.istore_n 3, 1) := by decide +kernel
theorem d_K_encode_16 : decode prog_5_method_3_code 16 = .ok (.iload_n 2, 1) := by decide +kernel
theorem d_K_encode_17 : decode prog_5_method_3_code 17 = .ok (.iconst 4, 1) := by decide +kernel
theorem d_K_encode_18 : decode prog_5_method_3_code 18 = .ok (.ishl, 1) := by decide +kernel
theorem d_K_encode_19 : decode prog_5_method_3_code 19 = .ok (.iload_n 3, 1) := by decide +kernel
theorem d_K_encode_20 : decode prog_5_method_3_code 20 = .ok (.ior, 1) := by decide +kernel
theorem d_K_encode_21 : decode prog_5_method_3_code 21 = .ok (.ireturn, 1) := by decide +kernel
theorem d_K_plusBehindSix_0 : decode prog_5_method_10_code 0 = .ok (.iload_n 0, 1) := by decide +kernel
theorem d_K_plusBehindSix_1 : decode prog_5_method_10_code 1 = .ok (.invokestatic 44, 3) := by decide +kernel
theorem d_K_plusBehindSix_4 : decode prog_5_method_10_code 4 = .ok (.istore_n 2, 1) := by decide +kernel
theorem d_K_plusBehindSix_5 : decode prog_5_method_10_code 5 = .ok (.iload_n 2, 1) := by decide +kernel
theorem d_K_plusBehindSix_6 : decode prog_5_method_10_code 6 = .ok (.iconst 3, 1) := by decide +kernel
theorem d_K_plusBehindSix_7 : decode prog_5_method_10_code 7 = .ok (.if_icmp .eq 14, 3) := by decide +kernel
theorem d_K_plusBehindSix_10 : decode prog_5_method_10_code 10 = .ok (.iload_n 2, 1) := by decide +kernel
theorem d_K_plusBehindSix_11 : decode prog_5_method_10_code 11 = .ok (.iconst 3, 1) := by decide +kernel
theorem d_K_plusBehindSix_12 : decode prog_5_method_10_code 12 = .ok (.if_icmp .le 7, 3) := by decide +kernel
theorem d_K_plusBehindSix_15 : decode prog_5_method_10_code 15 = .ok (.iconst 1, 1) := by decide +kernel
theorem d_K_plusBehindSix_16 : decode prog_5_method_10_code 16 = .ok (.goto 4, 3) := by decide +kernel
theorem d_K_plusBehindSix_19 : decode prog_5_method_10_code 19 = .ok (.iconst 0, 1) := by decide +kernel
theorem d_K_plusBehindSix_20 : decode prog_5_method_10_code 20 = .ok (.ireturn, 1) := by decide +kernel
theorem d_K_plusBehindSix_21 : decode prog_5_method_10_code 21 = .ok (.iload_n 0, 1) := by decide +kernel
theorem d_K_plusBehindSix_22 : decode prog_5_method_10_code 22 = .ok (.bipush 7, 2) := by decide +kernel
theorem d_K_plusBehindSix_24 : decode prog_5_method_10_code 24 = .ok (.if_icmp .eq 13, 3) := by decide +kernel
theorem d_K_plusBehindSix_27 : decode prog_5_method_10_code 27 = .ok (.iload_n 0, 1) := by decide +kernel
theorem d_K_plusBehindSix_28 : decode prog_5_method_10_code 28 = .ok (.bipush 56, 2) := by decide +kernel
theorem d_K_plusBehindSix_30 : decode prog_5_method_10_code 30 = .ok (.if_icmp .eq 11, 3) := by decide +kernel
theorem d_K_plusBehindSix_33 : decode prog_5_method_10_code 33 = .ok (.iload_n 1, 1) := by decide +kernel
theorem d_K_plusBehindSix_34 : decode prog_5_method_10_code 34 = .ok (.ifCond .eq 7, 3) := by decide +kernel
theorem d_K_plusBehindSix_37 : decode prog_5_method_10_code 37 = .ok (.iconst 1, 1) := by decide +kernel
theorem d_K_plusBehindSix_38 : decode prog_5_method_10_code 38 = .ok (.goto 4, 3) := by decide +kernel
theorem d_K_plusBehindSix_41 : decode prog_5_method_10_code 41 = .ok (.iconst 0, 1) := by decide +kernel
theorem d_K_plusBehindSix_42 : decode prog_5_method_10_code 42 = .ok (.ireturn, 1) := by decide +kernel
theorem d_K_fourOf_0 : decode prog_5_method_9_code 0 = .ok (.iload_n 0, 1) := by decide +kernel
theorem d_K_fourOf_1 : decode prog_5_method_9_code 1 = .ok (.iconst 5, 1) := by decide +kernel
theorem d_K_fourOf_2 : decode prog_5_method_9_code 2 = .ok (.ishr, 1) := by decide +kernel
theorem d_K_fourOf_3 : decode prog_5_method_9_code 3 = .ok (.bipush 7, 2) := by decide +kernel
theorem d_K_fourOf_5 : decode prog_5_method_9_code 5 = .ok (.iand, 1) := by decide +kernel
theorem d_K_fourOf_6 : decode prog_5_method_9_code 6 = .ok (.istore_n 2, 1) := by decide +kernel
theorem d_K_fourOf_7 : decode prog_5_method_9_code 7 = .ok (.iload_n 0, 1) := by decide +kernel
theorem d_K_fourOf_8 : decode prog_5_method_9_code 8 = .ok (.sipush 256, 3) := by decide +kernel
theorem d_K_fourOf_11 : decode prog_5_method_9_code 11 = .ok (.if_icmp .lt 7, 3) := by decide +kernel
theorem d_K_fourOf_14 : decode prog_5_method_9_code 14 = .ok (.iconst 1, 1) := by decide +kernel
theorem d_K_fourOf_15 : decode prog_5_method_9_code 15 = .ok (.goto 4, 3) := by decide +kernel
theorem d_K_fourOf_18 : decode prog_5_method_9_code 18 = .ok (.iconst 0, 1) := by decide +kernel
theorem d_K_fourOf_19 : decode prog_5_method_9_code 19 = .ok (.istore_n 3, 1) := by decide +kernel
theorem d_K_fourOf_20 : decode prog_5_method_9_code 20 = .ok (.iload_n 1, 1) := by decide +kernel
theorem d_K_fourOf_21 : decode prog_5_method_9_code 21 = .ok (.ifCond .eq 9, 3) := by decide +kernel
theorem d_K_fourOf_24 : decode prog_5_method_9_code 24 = .ok (.sipush 26624, 3) := by decide +kernel
theorem d_K_fourOf_27 : decode prog_5_method_9_code 27 = .ok (.goto 5, 3) := by decide +kernel
theorem d_K_fourOf_30 : decode prog_5_method_9_code 30 = .ok (.ldc 50, 2) := by decide +kernel
theorem d_K_fourOf_32 : decode prog_5_method_9_code 32 = .ok (.istore 4, 2) := by decide +kernel
theorem d_K_fourOf_34 : decode prog_5_method_9_code 34 = .ok (.getstatic 51, 3) := by decide +kernel
theorem d_K_fourOf_37 : decode prog_5_method_9_code 37 = .ok (.iload_n 2, 1) := by decide +kernel
theorem d_K_fourOf_38 : decode prog_5_method_9_code 38 = .ok (.iaload, 1) := by decide +kernel
theorem d_K_fourOf_39 : decode prog_5_method_9_code 39 = .ok (.istore 5, 2) := by decide +kernel
theorem d_K_fourOf_41 : decode prog_5_method_9_code 41 = .ok (.iload_n 2, 1) := by decide +kernel
theorem d_K_fourOf_42 : decode prog_5_method_9_code 42 = .ok (.bipush 7, 2) := by decide +kernel
theorem d_K_fourOf_44 : decode prog_5_method_9_code 44 = .ok (.if_icmp .ne 23, 3) := by decide +kernel
theorem d_K_fourOf_47 : decode prog_5_method_9_code 47 = .ok (.iload_n 3, 1) := by decide +kernel
theorem d_K_fourOf_48 : decode prog_5_method_9_code 48 = .ok (.ifCond .ne 15, 3) := by decide +kernel
theorem d_K_fourOf_51 : decode prog_5_method_9_code 51 = .ok (.iload_n 0, 1) := by decide +kernel
theorem d_K_fourOf_52 : decode prog_5_method_9_code 52 = .ok (.bipush 31, 2) := by decide +kernel
theorem d_K_fourOf_54 : decode prog_5_method_9_code 54 = .ok (.iand, 1) := by decide +kernel
theorem d_K_fourOf_55 : decode prog_5_method_9_code 55 = .ok (.iload 4, 2) := by decide +kernel
theorem d_K_fourOf_57 : decode prog_5_method_9_code 57 = .ok (.invokestatic 12, 3) := by decide +kernel
theorem d_K_fourOf_60 : decode prog_5_method_9_code 60 = .ok (.ifCond .eq 7, 3) := by decide +kernel
theorem d_K_fourOf_63 : decode prog_5_method_9_code 63 = .ok (.bipush 7, 2) := by decide +kernel
theorem d_K_fourOf_65 : decode prog_5_method_9_code 65 = .ok (.istore 5, 2) := by decide +kernel
theorem d_K_fourOf_67 : decode prog_5_method_9_code 67 = .ok (.iload 5, 2) := by decide +kernel
theorem d_K_fourOf_69 : decode prog_5_method_9_code 69 = .ok (.invokestatic 44, 3) := by decide +kernel
theorem d_K_fourOf_72 : decode prog_5_method_9_code 72 = .ok (.iconst 2, 1) := by decide +kernel
theorem d_K_fourOf_73 : decode prog_5_method_9_code 73 = .ok (.if_icmp .ne 10, 3) := by decide +kernel
theorem d_K_fourOf_76 : decode prog_5_method_9_code 76 = .ok (.iload 5, 2) := by decide +kernel
theorem d_K_fourOf_78 : decode prog_5_method_9_code 78 = .ok (.bipush 12, 2) := by decide +kernel
theorem d_K_fourOf_80 : decode prog_5_method_9_code 80 = .ok (.if_icmp .ne 7, 3) := by decide +kernel
theorem d_K_fourOf_83 : decode prog_5_method_9_code 83 = .ok (.iconst 1, 1) := by decide +kernel
theorem d_K_fourOf_84 : decode prog_5_method_9_code 84 = .ok (.goto 4, 3) := by decide +kernel
theorem d_K_fourOf_87 : decode prog_5_method_9_code 87 = .ok (.iconst 0, 1) := by decide +kernel
theorem d_K_fourOf_88 : decode prog_5_method_9_code 88 = .ok (.istore 6, 2) := by decide +kernel
theorem d_K_fourOf_90 : decode prog_5_method_9_code 90 = .ok (.iload 6, 2) := by decide +kernel
theorem d_K_fourOf_92 : decode prog_5_method_9_code 92 = .ok (.ifCond .eq 7, 3) := by decide +kernel
theorem d_K_fourOf_95 : decode prog_5_method_9_code 95 = .ok (.iload_n 1, 1) := by decide +kernel
theorem d_K_fourOf_96 : decode prog_5_method_9_code 96 = .ok (.goto 16, 3) := by decide +kernel
theorem d_K_fourOf_99 : decode prog_5_method_9_code 99 = .ok (.iload_n 3, 1) := by decide +kernel
theorem d_K_fourOf_100 : decode prog_5_method_9_code 100 = .ok (.ifCond .eq 11, 3) := by decide +kernel
theorem d_K_fourOf_103 : decode prog_5_method_9_code 103 = .ok (.iload_n 1, 1) := by decide +kernel
theorem d_K_fourOf_104 : decode prog_5_method_9_code 104 = .ok (.ifCond .ne 7, 3) := by decide +kernel
theorem d_K_fourOf_107 : decode prog_5_method_9_code 107 = .ok (.iconst 1, 1) := by decide +kernel
theorem d_K_fourOf_108 : decode prog_5_method_9_code 108 = .ok (.goto 4, 3) := by decide +kernel
theorem d_K_fourOf_111 : decode prog_5_method_9_code 111 = .ok (.iconst 0, 1) := by decide +kernel
theorem d_K_fourOf_112 : decode prog_5_method_9_code 112 = .ok (.istore 7, 2) := by decide +kernel
theorem d_K_fourOf_114 : decode prog_5_method_9_code 114 = .ok (.iload 7, 2) := by decide +kernel
theorem d_K_fourOf_116 : decode prog_5_method_9_code 116 = .ok (.ifCond .eq 11, 3) := by decide +kernel
theorem d_K_fourOf_119 : decode prog_5_method_9_code 119 = .ok (.iload 5, 2) := by decide +kernel
theorem d_K_fourOf_121 : decode prog_5_method_9_code 121 = .ok (.bipush 15, 2) := by decide +kernel
theorem d_K_fourOf_123 : decode prog_5_method_9_code 123 = .ok (.ixor, 1) := by decide +kernel
theorem d_K_fourOf_124 : decode prog_5_method_9_code 124 = .ok (.goto 5, 3) := by decide +kernel
theorem d_K_fourOf_127 : decode prog_5_method_9_code 127 = .ok (.iload 5, 2) := by decide +kernel
theorem d_K_fourOf_129 : decode prog_5_method_9_code 129 = .ok (.ireturn, 1) := by decide +kernel
theorem d_K_plusBehind_0 : decode prog_5_method_5_code 0 = .ok (.iload_n 0, 1) := by decide +kernel
theorem d_K_plusBehind_1 : decode prog_5_method_5_code 1 = .ok (.iconst 4, 1) := by decide +kernel
theorem d_K_plusBehind_2 : decode prog_5_method_5_code 2 = .ok (.ishr, 1) := by decide +kernel
theorem d_K_plusBehind_3 : decode prog_5_method_5_code 3 = .ok (.iload_n 1, 1) := by decide +kernel
theorem d_K_plusBehind_4 : decode prog_5_method_5_code 4 = .ok (.invokestatic 20, 3) := by decide +kernel
theorem d_K_plusBehind_7 : decode prog_5_method_5_code 7 = .ok (.istore_n 2, 1) := by decide +kernel
theorem d_K_plusBehind_8 : decode prog_5_method_5_code 8 = .ok (.iload_n 0, 1) := by decide +kernel
theorem d_K_plusBehind_9 : decode prog_5_method_5_code 9 = .ok (.bipush 15, 2) := by decide +kernel
theorem d_K_plusBehind_11 : decode prog_5_method_5_code 11 = .ok (.iand, 1) := by decide +kernel
theorem d_K_plusBehind_12 : decode prog_5_method_5_code 12 = .ok (.iload_n 2, 1) := by decide +kernel
theorem d_K_plusBehind_13 : decode prog_5_method_5_code 13 = .ok (.invokestatic 37, 3) := by decide +kernel
theorem d_K_plusBehind_16 : decode prog_5_method_5_code 16 = .ok (.ireturn, 1) := by decide +kernel
theorem d_K_plusBehindFour_0 : decode prog_5_method_11_code 0 = .ok (.iload_n 0, 1) := by decide +kernel
theorem d_K_plusBehindFour_1 : decode prog_5_method_11_code 1 = .ok (.invokestatic 44, 3) := by decide +kernel
theorem d_K_plusBehindFour_4 : decode prog_5_method_11_code 4 = .ok (.istore_n 2, 1) := by decide +kernel
theorem d_K_plusBehindFour_5 : decode prog_5_method_11_code 5 = .ok (.iload_n 2, 1) := by decide +kernel
theorem d_K_plusBehindFour_6 : decode prog_5_method_11_code 6 = .ok (.iconst 2, 1) := by decide +kernel
theorem d_K_plusBehindFour_7 : decode prog_5_method_11_code 7 = .ok (.if_icmp .eq 14, 3) := by decide +kernel
theorem d_K_plusBehindFour_10 : decode prog_5_method_11_code 10 = .ok (.iload_n 2, 1) := by decide +kernel
theorem d_K_plusBehindFour_11 : decode prog_5_method_11_code 11 = .ok (.iconst 2, 1) := by decide +kernel
theorem d_K_plusBehindFour_12 : decode prog_5_method_11_code 12 = .ok (.if_icmp .le 7, 3) := by decide +kernel
theorem d_K_plusBehindFour_15 : decode prog_5_method_11_code 15 = .ok (.iconst 1, 1) := by decide +kernel
theorem d_K_plusBehindFour_16 : decode prog_5_method_11_code 16 = .ok (.goto 4, 3) := by decide +kernel
theorem d_K_plusBehindFour_19 : decode prog_5_method_11_code 19 = .ok (.iconst 0, 1) := by decide +kernel
theorem d_K_plusBehindFour_20 : decode prog_5_method_11_code 20 = .ok (.ireturn, 1) := by decide +kernel
theorem d_K_plusBehindFour_21 : decode prog_5_method_11_code 21 = .ok (.iload_n 0, 1) := by decide +kernel
theorem d_K_plusBehindFour_22 : decode prog_5_method_11_code 22 = .ok (.iconst 3, 1) := by decide +kernel
theorem d_K_plusBehindFour_23 : decode prog_5_method_11_code 23 = .ok (.if_icmp .eq 13, 3) := by decide +kernel
theorem d_K_plusBehindFour_26 : decode prog_5_method_11_code 26 = .ok (.iload_n 0, 1) := by decide +kernel
theorem d_K_plusBehindFour_27 : decode prog_5_method_11_code 27 = .ok (.bipush 12, 2) := by decide +kernel
theorem d_K_plusBehindFour_29 : decode prog_5_method_11_code 29 = .ok (.if_icmp .eq 11, 3) := by decide +kernel
theorem d_K_plusBehindFour_32 : decode prog_5_method_11_code 32 = .ok (.iload_n 1, 1) := by decide +kernel
theorem d_K_plusBehindFour_33 : decode prog_5_method_11_code 33 = .ok (.ifCond .eq 7, 3) := by decide +kernel
theorem d_K_plusBehindFour_36 : decode prog_5_method_11_code 36 = .ok (.iconst 1, 1) := by decide +kernel
theorem d_K_plusBehindFour_37 : decode prog_5_method_11_code 37 = .ok (.goto 4, 3) := by decide +kernel
theorem d_K_plusBehindFour_40 : decode prog_5_method_11_code 40 = .ok (.iconst 0, 1) := by decide +kernel
theorem d_K_plusBehindFour_41 : decode prog_5_method_11_code 41 = .ok (.ireturn, 1) := by decide +kernel
theorem d_JM_max_0 : decode prog_16_method_65_code 0 = .ok (.iload_n 0, 1) := by decide +kernel
theorem d_JM_max_1 : decode prog_16_method_65_code 1 = .ok (.iload_n 1, 1) := by decide +kernel
theorem d_JM_max_2 : decode prog_16_method_65_code 2 = .ok (.if_icmp .lt 7, 3) := by decide +kernel
theorem d_JM_max_5 : decode prog_16_method_65_code 5 = .ok (.iload_n 0, 1) := by decide +kernel
theorem d_JM_max_6 : decode prog_16_method_65_code 6 = .ok (.goto 4, 3) := by decide +kernel
theorem d_JM_max_9 : decode prog_16_method_65_code 9 = .ok (.iload_n 1, 1) := by decide +kernel
theorem d_JM_max_10 : decode prog_16_method_65_code 10 = .ok (.ireturn, 1) := by decide +kernel
end
section
theorem d_T_init_0 : decode prog_6_method_1_code 0 = .ok (.aload_n 0, 1) := by decide +kernel
theorem d_T_init_1 : decode prog_6_method_1_code 1 = .ok (.aload_n 1, 1) := by decide +kernel
theorem d_T_init_2 : decode prog_6_method_1_code 2 = .ok (.invokespecial 3, 3) := by decide +kernel
theorem d_T_init_5 : decode prog_6_method_1_code 5 = .ok (.aload_n 0, 1) := by decide +kernel
theorem d_T_init_6 : decode prog_6_method_1_code 6 = .ok (.iconst 0, 1) := by decide +kernel
theorem d_T_init_7 : decode prog_6_method_1_code 7 = .ok (.putfield 9, 3) := by decide +kernel
theorem d_T_init_10 : decode prog_6_method_1_code 10 = .ok (.aload_n 0, 1) := by decide +kernel
theorem d_T_init_11 : decode prog_6_method_1_code 11 = .ok (.iconst 0, 1) := by decide +kernel
theorem d_T_init_12 : decode prog_6_method_1_code 12 = .ok (.putfield 15, 3) := by decide +kernel
theorem d_T_init_15 : decode prog_6_method_1_code 15 = .ok (.aload_n 0, 1) := by decide +kernel
theorem d_T_init_16 : decode prog_6_method_1_code 16 = .ok (.iconst 0, 1) := by decide +kernel
theorem d_T_init_17 : decode prog_6_method_1_code 17 = .ok (.putfield 18, 3) := by decide +kernel
theorem d_T_init_20 : decode prog_6_method_1_code 20 = .ok (.aload_n 0, 1) := by decide +kernel
theorem d_T_init_21 : decode prog_6_method_1_code 21 = .ok (.iconst 0, 1) := by decide +kernel
theorem d_T_init_22 : decode prog_6_method_1_code 22 = .ok (.putfield 22, 3) := by decide +kernel
theorem d_T_init_25 : decode prog_6_method_1_code 25 = .ok (.return_, 1) := by decide +kernel
theorem d_W_init_0 : decode prog_8_method_1_code 0 = .ok (.aload_n 0, 1) := by decide +kernel
theorem d_W_init_1 : decode prog_8_method_1_code 1 = .ok (.aload_n 1, 1) := by decide +kernel
theorem d_W_init_2 : decode prog_8_method_1_code 2 = .ok (.invokespecial 3, 3) := by decide +kernel
theorem d_W_init_5 : decode prog_8_method_1_code 5 = .ok (.aload_n 0, 1) := by decide +kernel
theorem d_W_init_6 : decode prog_8_method_1_code 6 = .ok (.new 9, 3) := by decide +kernel
theorem d_W_init_9 : decode prog_8_method_1_code 9 = .ok (.dup, 1) := by decide +kernel
theorem d_W_init_10 : decode prog_8_method_1_code 10 = .ok (.invokespecial 11, 3) := by decide +kernel
theorem d_W_init_13 : decode prog_8_method_1_code 13 = .ok (.putfield 14, 3) := by decide +kernel
theorem d_W_init_16 : decode prog_8_method_1_code 16 = .ok (.aload_n 0, 1) := by decide +kernel
theorem d_W_init_17 : decode prog_8_method_1_code 17 = .ok (.iconst 0, 1) := by decide +kernel
theorem d_W_init_18 : decode prog_8_method_1_code 18 = .ok (.putfield 20, 3) := by decide +kernel
theorem d_W_init_21 : decode prog_8_method_1_code 21 = .ok (.aload_n 0, 1) := by decide +kernel
theorem d_W_init_22 : decode prog_8_method_1_code 22 = .ok (.iconst 0, 1) := by decide +kernel
theorem d_W_init_23 : decode prog_8_method_1_code 23 = .ok (.putfield 24, 3) := by decide +kernel
theorem d_W_init_26 : decode prog_8_method_1_code 26 = .ok (.aload_n 0, 1) := by decide +kernel
theorem d_W_init_27 : decode prog_8_method_1_code 27 = .ok (.lconst 0, 1) := by decide +kernel
theorem d_W_init_28 : decode prog_8_method_1_code 28 = .ok (.putfield 27, 3) := by decide +kernel
theorem d_W_init_31 : decode prog_8_method_1_code 31 = .ok (.return_, 1) := by decide +kernel
theorem d_T_step_0 : decode prog_6_method_5_code 0 = .ok (.aload_n 0, 1) := by decide +kernel
theorem d_T_step_1 : decode prog_6_method_5_code 1 = .ok (.getfield 29, 3) := by decide +kernel
theorem d_T_step_4 : decode prog_6_method_5_code 4 = .ok (.ifCond .ne 39, 3) := by decide +kernel
theorem d_T_step_7 : decode prog_6_method_5_code 7 = .ok (.aload_n 0, 1) := by decide +kernel
theorem d_T_step_8 : decode prog_6_method_5_code 8 = .ok (.getfield 32, 3) := by decide +kernel
theorem d_T_step_11 : decode prog_6_method_5_code 11 = .ok (.invokevirtual 36, 3) := by decide +kernel
theorem d_T_step_14 : decode prog_6_method_5_code 14 = .ok (.bipush 7, 2) := by decide +kernel
theorem d_T_step_16 : decode prog_6_method_5_code 16 = .ok (.if_icmp .ge 5, 3) := by decide +kernel
theorem d_T_step_19 : decode prog_6_method_5_code 19 = .ok (.iconst (-1), 1) := by decide +kernel
theorem d_T_step_20 : decode prog_6_method_5_code 20 = .ok (.ireturn, 1) := by decide +kernel
theorem d_T_step_21 : decode prog_6_method_5_code 21 = .ok (.aload_n 0, 1) := by decide +kernel
theorem d_T_step_22 : decode prog_6_method_5_code 22 = .ok (.invokevirtual 42, 3) := by decide +kernel
theorem d_T_step_25 : decode prog_6_method_5_code 25 = .ok (.ifCond .ne 8, 3) := by decide +kernel
theorem d_T_step_28 : decode prog_6_method_5_code 28 = .ok (.aload_n 0, 1) := by decide +kernel
theorem d_T_step_29 : decode prog_6_method_5_code 29 = .ok (.invokevirtual 46, 3) := by decide +kernel
theorem d_T_step_32 : decode prog_6_method_5_code 32 = .ok (.ireturn, 1) := by decide +kernel
theorem d_T_step_33 : decode prog_6_method_5_code 33 = .ok (.aload_n 0, 1) := by decide +kernel
theorem d_T_step_34 : decode prog_6_method_5_code 34 = .ok (.iconst 1, 1) := by decide +kernel
theorem d_T_step_35 : decode prog_6_method_5_code 35 = .ok (.putfield 29, 3) := by decide +kernel
theorem d_T_step_38 : decode prog_6_method_5_code 38 = .ok (.aload_n 0, 1) := by decide +kernel
theorem d_T_step_39 : decode prog_6_method_5_code 39 = .ok (.iconst 1, 1) := by decide +kernel
theorem d_T_step_40 : decode prog_6_method_5_code 40 = .ok (.putfield 15, 3) := by decide +kernel
theorem d_T_step_43 : decode prog_6_method_5_code 43 = .ok (.aload_n 0, 1) := by decide +kernel
theorem d_T_step_44 : decode prog_6_method_5_code 44 = .ok (.getfield 32, 3) := by decide +kernel
theorem d_T_step_47 : decode prog_6_method_5_code 47 = .ok (.invokevirtual 36, 3) := by decide +kernel
theorem d_T_step_50 : decode prog_6_method_5_code 50 = .ok (.bipush 10, 2) := by decide +kernel
theorem d_T_step_52 : decode prog_6_method_5_code 52 = .ok (.if_icmp .ge 7, 3) := by decide +kernel
theorem d_T_step_55 : decode prog_6_method_5_code 55 = .ok (.iconst (-1), 1) := by decide +kernel
theorem d_T_step_56 : decode prog_6_method_5_code 56 = .ok (.goto 7, 3) := by decide +kernel
theorem d_T_step_59 : decode prog_6_method_5_code 59 = .ok (.aload_n 0, 1) := by decide +kernel
theorem d_T_step_60 : decode prog_6_method_5_code 60 = .ok (.invokevirtual 51, 3) := by decide +kernel
theorem d_T_step_63 : decode prog_6_method_5_code 63 = .ok (.ireturn, 1) := by decide +kernel
theorem d_T_isAtMark_0 : decode prog_6_method_6_code 0 = .ok (.aload_n 0, 1) := by decide +kernel
theorem d_T_isAtMark_1 : decode prog_6_method_6_code 1 = .ok (.getfield 32, 3) := by decide +kernel
theorem d_T_isAtMark_4 : decode prog_6_method_6_code 4 = .ok (.bipush 7, 2) := by decide +kernel
theorem d_T_isAtMark_6 : decode prog_6_method_6_code 6 = .ok (.invokevirtual 54, 3) := by decide +kernel
theorem d_T_isAtMark_9 : decode prog_6_method_6_code 9 = .ok (.istore_n 1, 1) := by decide +kernel
theorem d_T_isAtMark_10 : decode prog_6_method_6_code 10 = .ok (.iload_n 1, 1) := by decide +kernel
theorem d_T_isAtMark_11 : decode prog_6_method_6_code 11 = .ok (.bipush 31, 2) := by decide +kernel
theorem d_T_isAtMark_13 : decode prog_6_method_6_code 13 = .ok (.if_icmp .eq 9, 3) := by decide +kernel
theorem d_T_isAtMark_16 : decode prog_6_method_6_code 16 = .ok (.iload_n 1, 1) := by decide +kernel
theorem d_T_isAtMark_17 : decode prog_6_method_6_code 17 = .ok (.bipush 96, 2) := by decide +kernel
theorem d_T_isAtMark_19 : decode prog_6_method_6_code 19 = .ok (.if_icmp .ne 7, 3) := by decide +kernel
theorem d_T_isAtMark_22 : decode prog_6_method_6_code 22 = .ok (.iconst 1, 1) := by decide +kernel
theorem d_T_isAtMark_23 : decode prog_6_method_6_code 23 = .ok (.goto 4, 3) := by decide +kernel
theorem d_T_isAtMark_26 : decode prog_6_method_6_code 26 = .ok (.iconst 0, 1) := by decide +kernel
theorem d_T_isAtMark_27 : decode prog_6_method_6_code 27 = .ok (.ireturn, 1) := by decide +kernel
theorem d_T_takeTen_0 : decode prog_6_method_7_code 0 = .ok (.aload_n 0, 1) := by decide +kernel
theorem d_T_takeTen_1 : decode prog_6_method_7_code 1 = .ok (.getfield 32, 3) := by decide +kernel
theorem d_T_takeTen_4 : decode prog_6_method_7_code 4 = .ok (.bipush 10, 2) := by decide +kernel
theorem d_T_takeTen_6 : decode prog_6_method_7_code 6 = .ok (.invokevirtual 54, 3) := by decide +kernel
theorem d_T_takeTen_9 : decode prog_6_method_7_code 9 = .ok (.istore_n 1, 1) := by decide +kernel
theorem d_T_takeTen_10 : decode prog_6_method_7_code 10 = .ok (.aload_n 0, 1) := by decide +kernel
theorem d_T_takeTen_11 : decode prog_6_method_7_code 11 = .ok (.getfield 32, 3) := by decide +kernel
theorem d_T_takeTen_14 : decode prog_6_method_7_code 14 = .ok (.bipush 10, 2) := by decide +kernel
theorem d_T_takeTen_16 : decode prog_6_method_7_code 16 = .ok (.invokevirtual 58, 3) := by decide +kernel
theorem d_T_takeTen_19 : decode prog_6_method_7_code 19 = .ok (.iload_n 1, 1) := by decide +kernel
theorem d_T_takeTen_20 : decode prog_6_method_7_code 20 = .ok (.aload_n 0, 1) := by decide +kernel
theorem d_T_takeTen_21 : decode prog_6_method_7_code 21 = .ok (.getfield 9, 3) := by decide +kernel
theorem d_T_takeTen_24 : decode prog_6_method_7_code 24 = .ok (.invokestatic 62, 3) := by decide +kernel
theorem d_T_takeTen_27 : decode prog_6_method_7_code 27 = .ok (.istore_n 2, 1) := by decide +kernel
theorem d_T_takeTen_28 : decode prog_6_method_7_code 28 = .ok (.iload_n 2, 1) := by decide +kernel
theorem d_T_takeTen_29 : decode prog_6_method_7_code 29 = .ok (.iconst (-1), 1) := by decide +kernel
theorem d_T_takeTen_30 : decode prog_6_method_7_code 30 = .ok (.if_icmp .eq 7, 3) := by decide +kernel
theorem d_T_takeTen_33 : decode prog_6_method_7_code 33 = .ok (.iload_n 2, 1) := by decide +kernel
theorem d_T_takeTen_34 : decode prog_6_method_7_code 34 = .ok (.goto 19, 3) := by decide +kernel
theorem d_T_takeTen_37 : decode prog_6_method_7_code 37 = .ok (.iload_n 1, 1) := by decide +kernel
theorem d_T_takeTen_38 : decode prog_6_method_7_code 38 = .ok (.aload_n 0, 1) := by decide +kernel
theorem d_T_takeTen_39 : decode prog_6_method_7_code 39 = .ok (.getfield 9, 3) := by decide +kernel
theorem d_T_takeTen_42 : decode prog_6_method_7_code 42 = .ok (.ifCond .ne 7, 3) := by decide +kernel
theorem d_T_takeTen_45 : decode prog_6_method_7_code 45 = .ok (.iconst 1, 1) := by decide +kernel
theorem d_T_takeTen_46 : decode prog_6_method_7_code 46 = .ok (.goto 4, 3) := by decide +kernel
theorem d_T_takeTen_49 : decode prog_6_method_7_code 49 = .ok (.iconst 0, 1) := by decide +kernel
theorem d_T_takeTen_50 : decode prog_6_method_7_code 50 = .ok (.invokestatic 62, 3) := by decide +kernel
theorem d_T_takeTen_53 : decode prog_6_method_7_code 53 = .ok (.istore_n 3, 1) := by decide +kernel
theorem d_T_takeTen_54 : decode prog_6_method_7_code 54 = .ok (.iload_n 2, 1) := by decide +kernel
theorem d_T_takeTen_55 : decode prog_6_method_7_code 55 = .ok (.iconst (-1), 1) := by decide +kernel
theorem d_T_takeTen_56 : decode prog_6_method_7_code 56 = .ok (.if_icmp .ne 12, 3) := by decide +kernel
theorem d_T_takeTen_59 : decode prog_6_method_7_code 59 = .ok (.iload_n 3, 1) := by decide +kernel
theorem d_T_takeTen_60 : decode prog_6_method_7_code 60 = .ok (.iconst (-1), 1) := by decide +kernel
theorem d_T_takeTen_61 : decode prog_6_method_7_code 61 = .ok (.if_icmp .eq 7, 3) := by decide +kernel
theorem d_T_takeTen_64 : decode prog_6_method_7_code 64 = .ok (.iconst 1, 1) := by decide +kernel
theorem d_T_takeTen_65 : decode prog_6_method_7_code 65 = .ok (.goto 4, 3) := by decide +kernel
theorem d_T_takeTen_68 : decode prog_6_method_7_code 68 = .ok (.iconst 0, 1) := by decide +kernel
theorem d_T_takeTen_69 : decode prog_6_method_7_code 69 = .ok (.istore 4, 2) := by decide +kernel
theorem d_T_takeTen_71 : decode prog_6_method_7_code 71 = .ok (.iload 4, 2) := by decide +kernel
theorem d_T_takeTen_73 : decode prog_6_method_7_code 73 = .ok (.ifCond .eq 14, 3) := by decide +kernel
theorem d_T_takeTen_76 : decode prog_6_method_7_code 76 = .ok (.aload_n 0, 1) := by decide +kernel
theorem d_T_takeTen_77 : decode prog_6_method_7_code 77 = .ok (.getfield 15, 3) := by decide +kernel
theorem d_T_takeTen_80 : decode prog_6_method_7_code 80 = .ok (.ifCond .ne 7, 3) := by decide +kernel
theorem d_T_takeTen_83 : decode prog_6_method_7_code 83 = .ok (.iconst 1, 1) := by decide +kernel
theorem d_T_takeTen_84 : decode prog_6_method_7_code 84 = .ok (.goto 4, 3) := by decide +kernel
theorem d_T_takeTen_87 : decode prog_6_method_7_code 87 = .ok (.iconst 0, 1) := by decide +kernel
theorem d_T_takeTen_88 : decode prog_6_method_7_code 88 = .ok (.istore 5, 2) := by decide +kernel
theorem d_T_takeTen_90 : decode prog_6_method_7_code 90 = .ok (.iload 4, 2) := by decide +kernel
theorem d_T_takeTen_92 : decode prog_6_method_7_code 92 = .ok (.ifCond .eq 26, 3) := by decide +kernel
theorem d_T_takeTen_95 : decode prog_6_method_7_code 95 = .ok (.aload_n 0, 1) := by decide +kernel
theorem d_T_takeTen_96 : decode prog_6_method_7_code 96 = .ok (.getfield 15, 3) := by decide +kernel
theorem d_T_takeTen_99 : decode prog_6_method_7_code 99 = .ok (.ifCond .eq 19, 3) := by decide +kernel
theorem d_T_takeTen_102 : decode prog_6_method_7_code 102 = .ok (.aload_n 0, 1) := by decide +kernel
theorem d_T_takeTen_103 : decode prog_6_method_7_code 103 = .ok (.aload_n 0, 1) := by decide +kernel
theorem d_T_takeTen_104 : decode prog_6_method_7_code 104 = .ok (.getfield 9, 3) := by decide +kernel
theorem d_T_takeTen_107 : decode prog_6_method_7_code 107 = .ok (.ifCond .ne 7, 3) := by decide +kernel
theorem d_T_takeTen_110 : decode prog_6_method_7_code 110 = .ok (.iconst 1, 1) := by decide +kernel
theorem d_T_takeTen_111 : decode prog_6_method_7_code 111 = .ok (.goto 4, 3) := by decide +kernel
theorem d_T_takeTen_114 : decode prog_6_method_7_code 114 = .ok (.iconst 0, 1) := by decide +kernel
theorem d_T_takeTen_115 : decode prog_6_method_7_code 115 = .ok (.putfield 9, 3) := by decide +kernel
theorem d_T_takeTen_118 : decode prog_6_method_7_code 118 = .ok (.aload_n 0, 1) := by decide +kernel
theorem d_T_takeTen_119 : decode prog_6_method_7_code 119 = .ok (.iconst 0, 1) := by decide +kernel
theorem d_T_takeTen_120 : decode prog_6_method_7_code 120 = .ok (.putfield 15, 3) := by decide +kernel
theorem d_T_takeTen_123 : decode prog_6_method_7_code 123 = .ok (.aload_n 0, 1) := by decide +kernel
theorem d_T_takeTen_124 : decode prog_6_method_7_code 124 = .ok (.iload_n 1, 1) := by decide +kernel
theorem d_T_takeTen_125 : decode prog_6_method_7_code 125 = .ok (.aload_n 0, 1) := by decide +kernel
theorem d_T_takeTen_126 : decode prog_6_method_7_code 126 = .ok (.getfield 9, 3) := by decide +kernel
theorem d_T_takeTen_129 : decode prog_6_method_7_code 129 = .ok (.invokestatic 66, 3) := by decide +kernel
theorem d_T_takeTen_132 : decode prog_6_method_7_code 132 = .ok (.putfield 9, 3) := by decide +kernel
theorem d_T_takeTen_135 : decode prog_6_method_7_code 135 = .ok (.aload_n 0, 1) := by decide +kernel
theorem d_T_takeTen_136 : decode prog_6_method_7_code 136 = .ok (.iload_n 3, 1) := by decide +kernel
theorem d_T_takeTen_137 : decode prog_6_method_7_code 137 = .ok (.iload 5, 2) := by decide +kernel
theorem d_T_takeTen_139 : decode prog_6_method_7_code 139 = .ok (.invokevirtual 70, 3) := by decide +kernel
theorem d_T_takeTen_142 : decode prog_6_method_7_code 142 = .ok (.ireturn, 1) := by decide +kernel
theorem d_T_judge_0 : decode prog_6_method_8_code 0 = .ok (.iload_n 1, 1) := by decide +kernel
theorem d_T_judge_1 : decode prog_6_method_8_code 1 = .ok (.iconst (-1), 1) := by decide +kernel
theorem d_T_judge_2 : decode prog_6_method_8_code 2 = .ok (.if_icmp .ne 20, 3) := by decide +kernel
theorem d_T_judge_5 : decode prog_6_method_8_code 5 = .ok (.aload_n 0, 1) := by decide +kernel
theorem d_T_judge_6 : decode prog_6_method_8_code 6 = .ok (.dup, 1) := by decide +kernel
theorem d_T_judge_7 : decode prog_6_method_8_code 7 = .ok (.getfield 73, 3) := by decide +kernel
theorem d_T_judge_10 : decode prog_6_method_8_code 10 = .ok (.iconst 1, 1) := by decide +kernel
theorem d_T_judge_11 : decode prog_6_method_8_code 11 = .ok (.iadd, 1) := by decide +kernel
theorem d_T_judge_12 : decode prog_6_method_8_code 12 = .ok (.putfield 73, 3) := by decide +kernel
theorem d_T_judge_15 : decode prog_6_method_8_code 15 = .ok (.aload_n 0, 1) := by decide +kernel
theorem d_T_judge_16 : decode prog_6_method_8_code 16 = .ok (.invokevirtual 76, 3) := by decide +kernel
theorem d_T_judge_19 : decode prog_6_method_8_code 19 = .ok (.bipush (-2), 2) := by decide +kernel
theorem d_T_judge_21 : decode prog_6_method_8_code 21 = .ok (.ireturn, 1) := by decide +kernel
theorem d_T_judge_22 : decode prog_6_method_8_code 22 = .ok (.iload_n 2, 1) := by decide +kernel
theorem d_T_judge_23 : decode prog_6_method_8_code 23 = .ok (.ifCond .eq 23, 3) := by decide +kernel
theorem d_T_judge_26 : decode prog_6_method_8_code 26 = .ok (.aload_n 0, 1) := by decide +kernel
theorem d_T_judge_27 : decode prog_6_method_8_code 27 = .ok (.dup, 1) := by decide +kernel
theorem d_T_judge_28 : decode prog_6_method_8_code 28 = .ok (.getfield 79, 3) := by decide +kernel
theorem d_T_judge_31 : decode prog_6_method_8_code 31 = .ok (.iconst 1, 1) := by decide +kernel
theorem d_T_judge_32 : decode prog_6_method_8_code 32 = .ok (.iadd, 1) := by decide +kernel
theorem d_T_judge_33 : decode prog_6_method_8_code 33 = .ok (.putfield 79, 3) := by decide +kernel
theorem d_T_judge_36 : decode prog_6_method_8_code 36 = .ok (.aload_n 0, 1) := by decide +kernel
theorem d_T_judge_37 : decode prog_6_method_8_code 37 = .ok (.invokevirtual 76, 3) := by decide +kernel
theorem d_T_judge_40 : decode prog_6_method_8_code 40 = .ok (.iload_n 1, 1) := by decide +kernel
theorem d_T_judge_41 : decode prog_6_method_8_code 41 = .ok (.sipush 512, 3) := by decide +kernel
theorem d_T_judge_44 : decode prog_6_method_8_code 44 = .ok (.iadd, 1) := by decide +kernel
theorem d_T_judge_45 : decode prog_6_method_8_code 45 = .ok (.ireturn, 1) := by decide +kernel
theorem d_T_judge_46 : decode prog_6_method_8_code 46 = .ok (.aload_n 0, 1) := by decide +kernel
theorem d_T_judge_47 : decode prog_6_method_8_code 47 = .ok (.invokevirtual 82, 3) := by decide +kernel
theorem d_T_judge_50 : decode prog_6_method_8_code 50 = .ok (.iload_n 1, 1) := by decide +kernel
theorem d_T_judge_51 : decode prog_6_method_8_code 51 = .ok (.ireturn, 1) := by decide +kernel
theorem d_T_mark_0 : decode prog_6_method_9_code 0 = .ok (.aload_n 0, 1) := by decide +kernel
theorem d_T_mark_1 : decode prog_6_method_9_code 1 = .ok (.iconst 0, 1) := by decide +kernel
theorem d_T_mark_2 : decode prog_6_method_9_code 2 = .ok (.putfield 22, 3) := by decide +kernel
theorem d_T_mark_5 : decode prog_6_method_9_code 5 = .ok (.aload_n 0, 1) := by decide +kernel
theorem d_T_mark_6 : decode prog_6_method_9_code 6 = .ok (.dup, 1) := by decide +kernel
theorem d_T_mark_7 : decode prog_6_method_9_code 7 = .ok (.getfield 18, 3) := by decide +kernel
theorem d_T_mark_10 : decode prog_6_method_9_code 10 = .ok (.iconst 1, 1) := by decide +kernel
theorem d_T_mark_11 : decode prog_6_method_9_code 11 = .ok (.iadd, 1) := by decide +kernel
theorem d_T_mark_12 : decode prog_6_method_9_code 12 = .ok (.putfield 18, 3) := by decide +kernel
theorem d_T_mark_15 : decode prog_6_method_9_code 15 = .ok (.aload_n 0, 1) := by decide +kernel
theorem d_T_mark_16 : decode prog_6_method_9_code 16 = .ok (.getfield 18, 3) := by decide +kernel
theorem d_T_mark_19 : decode prog_6_method_9_code 19 = .ok (.iconst 4, 1) := by decide +kernel
theorem d_T_mark_20 : decode prog_6_method_9_code 20 = .ok (.if_icmp .lt 13, 3) := by decide +kernel
theorem d_T_mark_23 : decode prog_6_method_9_code 23 = .ok (.aload_n 0, 1) := by decide +kernel
theorem d_T_mark_24 : decode prog_6_method_9_code 24 = .ok (.iconst 0, 1) := by decide +kernel
theorem d_T_mark_25 : decode prog_6_method_9_code 25 = .ok (.putfield 18, 3) := by decide +kernel
theorem d_T_mark_28 : decode prog_6_method_9_code 28 = .ok (.aload_n 0, 1) := by decide +kernel
theorem d_T_mark_29 : decode prog_6_method_9_code 29 = .ok (.iconst 0, 1) := by decide +kernel
theorem d_T_mark_30 : decode prog_6_method_9_code 30 = .ok (.putfield 29, 3) := by decide +kernel
theorem d_T_mark_33 : decode prog_6_method_9_code 33 = .ok (.return_, 1) := by decide +kernel
theorem d_T_praise_0 : decode prog_6_method_10_code 0 = .ok (.aload_n 0, 1) := by decide +kernel
theorem d_T_praise_1 : decode prog_6_method_10_code 1 = .ok (.dup, 1) := by decide +kernel
theorem d_T_praise_2 : decode prog_6_method_10_code 2 = .ok (.getfield 22, 3) := by decide +kernel
theorem d_T_praise_5 : decode prog_6_method_10_code 5 = .ok (.iconst 1, 1) := by decide +kernel
theorem d_T_praise_6 : decode prog_6_method_10_code 6 = .ok (.iadd, 1) := by decide +kernel
theorem d_T_praise_7 : decode prog_6_method_10_code 7 = .ok (.putfield 22, 3) := by decide +kernel
theorem d_T_praise_10 : decode prog_6_method_10_code 10 = .ok (.aload_n 0, 1) := by decide +kernel
theorem d_T_praise_11 : decode prog_6_method_10_code 11 = .ok (.getfield 22, 3) := by decide +kernel
theorem d_T_praise_14 : decode prog_6_method_10_code 14 = .ok (.iconst 4, 1) := by decide +kernel
theorem d_T_praise_15 : decode prog_6_method_10_code 15 = .ok (.if_icmp .ne 22, 3) := by decide +kernel
theorem d_T_praise_18 : decode prog_6_method_10_code 18 = .ok (.aload_n 0, 1) := by decide +kernel
theorem d_T_praise_19 : decode prog_6_method_10_code 19 = .ok (.iconst 0, 1) := by decide +kernel
theorem d_T_praise_20 : decode prog_6_method_10_code 20 = .ok (.putfield 22, 3) := by decide +kernel
theorem d_T_praise_23 : decode prog_6_method_10_code 23 = .ok (.aload_n 0, 1) := by decide +kernel
theorem d_T_praise_24 : decode prog_6_method_10_code 24 = .ok (.iconst 0, 1) := by decide +kernel
theorem d_T_praise_25 : decode prog_6_method_10_code 25 = .ok (.aload_n 0, 1) := by decide +kernel
theorem d_T_praise_26 : decode prog_6_method_10_code 26 = .ok (.getfield 18, 3) := by decide +kernel
theorem d_T_praise_29 : decode prog_6_method_10_code 29 = .ok (.iconst 1, 1) := by decide +kernel
theorem d_T_praise_30 : decode prog_6_method_10_code 30 = .ok (.isub, 1) := by decide +kernel
theorem d_T_praise_31 : decode prog_6_method_10_code 31 = .ok (.invokestatic 85, 3) := by decide +kernel
theorem d_T_praise_34 : decode prog_6_method_10_code 34 = .ok (.putfield 18, 3) := by decide +kernel
theorem d_T_praise_37 : decode prog_6_method_10_code 37 = .ok (.return_, 1) := by decide +kernel
theorem d_W_step_0 : decode prog_8_method_5_code 0 = .ok (.aload_n 0, 1) := by decide +kernel
theorem d_W_step_1 : decode prog_8_method_5_code 1 = .ok (.getfield 47, 3) := by decide +kernel
theorem d_W_step_4 : decode prog_8_method_5_code 4 = .ok (.invokevirtual 51, 3) := by decide +kernel
theorem d_W_step_7 : decode prog_8_method_5_code 7 = .ok (.bipush 66, 2) := by decide +kernel
theorem d_W_step_9 : decode prog_8_method_5_code 9 = .ok (.if_icmp .ge 5, 3) := by decide +kernel
theorem d_W_step_12 : decode prog_8_method_5_code 12 = .ok (.iconst (-1), 1) := by decide +kernel
theorem d_W_step_13 : decode prog_8_method_5_code 13 = .ok (.ireturn, 1) := by decide +kernel
theorem d_W_step_14 : decode prog_8_method_5_code 14 = .ok (.aload_n 0, 1) := by decide +kernel
theorem d_W_step_15 : decode prog_8_method_5_code 15 = .ok (.getfield 47, 3) := by decide +kernel
theorem d_W_step_18 : decode prog_8_method_5_code 18 = .ok (.iconst 2, 1) := by decide +kernel
theorem d_W_step_19 : decode prog_8_method_5_code 19 = .ok (.invokevirtual 59, 3) := by decide +kernel
theorem d_W_step_22 : decode prog_8_method_5_code 22 = .ok (.istore_n 1, 1) := by decide +kernel
theorem d_W_step_23 : decode prog_8_method_5_code 23 = .ok (.iload_n 1, 1) := by decide +kernel
theorem d_W_step_24 : decode prog_8_method_5_code 24 = .ok (.iconst 1, 1) := by decide +kernel
theorem d_W_step_25 : decode prog_8_method_5_code 25 = .ok (.if_icmp .eq 8, 3) := by decide +kernel
theorem d_W_step_28 : decode prog_8_method_5_code 28 = .ok (.iload_n 1, 1) := by decide +kernel
theorem d_W_step_29 : decode prog_8_method_5_code 29 = .ok (.iconst 2, 1) := by decide +kernel
theorem d_W_step_30 : decode prog_8_method_5_code 30 = .ok (.if_icmp .ne 7, 3) := by decide +kernel
theorem d_W_step_33 : decode prog_8_method_5_code 33 = .ok (.iconst 1, 1) := by decide +kernel
theorem d_W_step_34 : decode prog_8_method_5_code 34 = .ok (.goto 4, 3) := by decide +kernel
theorem d_W_step_37 : decode prog_8_method_5_code 37 = .ok (.iconst 0, 1) := by decide +kernel
theorem d_W_step_38 : decode prog_8_method_5_code 38 = .ok (.istore_n 2, 1) := by decide +kernel
theorem d_W_step_39 : decode prog_8_method_5_code 39 = .ok (.aload_n 0, 1) := by decide +kernel
theorem d_W_step_40 : decode prog_8_method_5_code 40 = .ok (.getfield 37, 3) := by decide +kernel
theorem d_W_step_43 : decode prog_8_method_5_code 43 = .ok (.ifCond .ne 17, 3) := by decide +kernel
theorem d_W_step_46 : decode prog_8_method_5_code 46 = .ok (.iload_n 2, 1) := by decide +kernel
theorem d_W_step_47 : decode prog_8_method_5_code 47 = .ok (.ifCond .ne 13, 3) := by decide +kernel
theorem d_W_step_50 : decode prog_8_method_5_code 50 = .ok (.aload_n 0, 1) := by decide +kernel
theorem d_W_step_51 : decode prog_8_method_5_code 51 = .ok (.iconst 0, 1) := by decide +kernel
theorem d_W_step_52 : decode prog_8_method_5_code 52 = .ok (.putfield 20, 3) := by decide +kernel
theorem d_W_step_55 : decode prog_8_method_5_code 55 = .ok (.aload_n 0, 1) := by decide +kernel
theorem d_W_step_56 : decode prog_8_method_5_code 56 = .ok (.invokevirtual 62, 3) := by decide +kernel
theorem d_W_step_59 : decode prog_8_method_5_code 59 = .ok (.ireturn, 1) := by decide +kernel
theorem d_W_step_60 : decode prog_8_method_5_code 60 = .ok (.aload_n 0, 1) := by decide +kernel
theorem d_W_step_61 : decode prog_8_method_5_code 61 = .ok (.invokevirtual 65, 3) := by decide +kernel
theorem d_W_step_64 : decode prog_8_method_5_code 64 = .ok (.aload_n 0, 1) := by decide +kernel
theorem d_W_step_65 : decode prog_8_method_5_code 65 = .ok (.getfield 37, 3) := by decide +kernel
theorem d_W_step_68 : decode prog_8_method_5_code 68 = .ok (.ifCond .eq 11, 3) := by decide +kernel
theorem d_W_step_71 : decode prog_8_method_5_code 71 = .ok (.aload_n 0, 1) := by decide +kernel
theorem d_W_step_72 : decode prog_8_method_5_code 72 = .ok (.iload_n 2, 1) := by decide +kernel
theorem d_W_step_73 : decode prog_8_method_5_code 73 = .ok (.invokevirtual 68, 3) := by decide +kernel
theorem d_W_step_76 : decode prog_8_method_5_code 76 = .ok (.goto 7, 3) := by decide +kernel
theorem d_W_step_79 : decode prog_8_method_5_code 79 = .ok (.aload_n 0, 1) := by decide +kernel
theorem d_W_step_80 : decode prog_8_method_5_code 80 = .ok (.invokevirtual 72, 3) := by decide +kernel
theorem d_W_step_83 : decode prog_8_method_5_code 83 = .ok (.iload_n 2, 1) := by decide +kernel
theorem d_W_step_84 : decode prog_8_method_5_code 84 = .ok (.ifCond .ne 16, 3) := by decide +kernel
theorem d_W_step_87 : decode prog_8_method_5_code 87 = .ok (.aload_n 0, 1) := by decide +kernel
theorem d_W_step_88 : decode prog_8_method_5_code 88 = .ok (.dup, 1) := by decide +kernel
theorem d_W_step_89 : decode prog_8_method_5_code 89 = .ok (.getfield 75, 3) := by decide +kernel
theorem d_W_step_92 : decode prog_8_method_5_code 92 = .ok (.iconst 1, 1) := by decide +kernel
theorem d_W_step_93 : decode prog_8_method_5_code 93 = .ok (.iadd, 1) := by decide +kernel
theorem d_W_step_94 : decode prog_8_method_5_code 94 = .ok (.putfield 75, 3) := by decide +kernel
theorem d_W_step_97 : decode prog_8_method_5_code 97 = .ok (.bipush (-2), 2) := by decide +kernel
theorem d_W_step_99 : decode prog_8_method_5_code 99 = .ok (.ireturn, 1) := by decide +kernel
theorem d_W_step_100 : decode prog_8_method_5_code 100 = .ok (.iload_n 1, 1) := by decide +kernel
theorem d_W_step_101 : decode prog_8_method_5_code 101 = .ok (.iconst 2, 1) := by decide +kernel
theorem d_W_step_102 : decode prog_8_method_5_code 102 = .ok (.if_icmp .ne 7, 3) := by decide +kernel
theorem d_W_step_105 : decode prog_8_method_5_code 105 = .ok (.iconst 1, 1) := by decide +kernel
theorem d_W_step_106 : decode prog_8_method_5_code 106 = .ok (.goto 4, 3) := by decide +kernel
theorem d_W_step_109 : decode prog_8_method_5_code 109 = .ok (.iconst 0, 1) := by decide +kernel
theorem d_W_step_110 : decode prog_8_method_5_code 110 = .ok (.ireturn, 1) := by decide +kernel
theorem d_W_takeWord_0 : decode prog_8_method_6_code 0 = .ok (.aload_n 0, 1) := by decide +kernel
theorem d_W_takeWord_1 : decode prog_8_method_6_code 1 = .ok (.getfield 47, 3) := by decide +kernel
theorem d_W_takeWord_4 : decode prog_8_method_6_code 4 = .ok (.iconst 2, 1) := by decide +kernel
theorem d_W_takeWord_5 : decode prog_8_method_6_code 5 = .ok (.invokevirtual 78, 3) := by decide +kernel
theorem d_W_takeWord_8 : decode prog_8_method_6_code 8 = .ok (.lconst 0, 1) := by decide +kernel
theorem d_W_takeWord_9 : decode prog_8_method_6_code 9 = .ok (.lstore_n 1, 1) := by decide +kernel
theorem d_W_takeWord_10 : decode prog_8_method_6_code 10 = .ok (.iconst 0, 1) := by decide +kernel
theorem d_W_takeWord_11 : decode prog_8_method_6_code 11 = .ok (.istore_n 3, 1) := by decide +kernel
theorem d_W_takeWord_12 : decode prog_8_method_6_code 12 = .ok (.iload_n 3, 1) := by decide +kernel
theorem d_W_takeWord_13 : decode prog_8_method_6_code 13 = .ok (.bipush 64, 2) := by decide +kernel
theorem d_W_takeWord_15 : decode prog_8_method_6_code 15 = .ok (.if_icmp .ge 42, 3) := by decide +kernel
theorem d_W_takeWord_18 : decode prog_8_method_6_code 18 = .ok (.aload_n 0, 1) := by decide +kernel
theorem d_W_takeWord_19 : decode prog_8_method_6_code 19 = .ok (.getfield 14, 3) := by decide +kernel
theorem d_W_takeWord_22 : decode prog_8_method_6_code 22 = .ok (.aload_n 0, 1) := by decide +kernel
theorem d_W_takeWord_23 : decode prog_8_method_6_code 23 = .ok (.getfield 47, 3) := by decide +kernel
theorem d_W_takeWord_26 : decode prog_8_method_6_code 26 = .ok (.iconst 1, 1) := by decide +kernel
theorem d_W_takeWord_27 : decode prog_8_method_6_code 27 = .ok (.invokevirtual 59, 3) := by decide +kernel
theorem d_W_takeWord_30 : decode prog_8_method_6_code 30 = .ok (.invokevirtual 82, 3) := by decide +kernel
theorem d_W_takeWord_33 : decode prog_8_method_6_code 33 = .ok (.i2l, 1) := by decide +kernel
theorem d_W_takeWord_34 : decode prog_8_method_6_code 34 = .ok (.lstore 4, 2) := by decide +kernel
theorem d_W_takeWord_36 : decode prog_8_method_6_code 36 = .ok (.aload_n 0, 1) := by decide +kernel
theorem d_W_takeWord_37 : decode prog_8_method_6_code 37 = .ok (.getfield 47, 3) := by decide +kernel
theorem d_W_takeWord_40 : decode prog_8_method_6_code 40 = .ok (.iconst 1, 1) := by decide +kernel
theorem d_W_takeWord_41 : decode prog_8_method_6_code 41 = .ok (.invokevirtual 78, 3) := by decide +kernel
theorem d_W_takeWord_44 : decode prog_8_method_6_code 44 = .ok (.lload_n 1, 1) := by decide +kernel
theorem d_W_takeWord_45 : decode prog_8_method_6_code 45 = .ok (.lload 4, 2) := by decide +kernel
theorem d_W_takeWord_47 : decode prog_8_method_6_code 47 = .ok (.iload_n 3, 1) := by decide +kernel
theorem d_W_takeWord_48 : decode prog_8_method_6_code 48 = .ok (.lshl, 1) := by decide +kernel
theorem d_W_takeWord_49 : decode prog_8_method_6_code 49 = .ok (.lor, 1) := by decide +kernel
theorem d_W_takeWord_50 : decode prog_8_method_6_code 50 = .ok (.lstore_n 1, 1) := by decide +kernel
theorem d_W_takeWord_51 : decode prog_8_method_6_code 51 = .ok (.iinc 3 1, 3) := by decide +kernel
theorem d_W_takeWord_54 : decode prog_8_method_6_code 54 = .ok (.goto (-42), 3) := by decide +kernel
theorem d_W_takeWord_57 : decode prog_8_method_6_code 57 = .ok (.aload_n 0, 1) := by decide +kernel
theorem d_W_takeWord_58 : decode prog_8_method_6_code 58 = .ok (.lload_n 1, 1) := by decide +kernel
theorem d_W_takeWord_59 : decode prog_8_method_6_code 59 = .ok (.putfield 27, 3) := by decide +kernel
theorem d_W_takeWord_62 : decode prog_8_method_6_code 62 = .ok (.return_, 1) := by decide +kernel
theorem d_W_watch_0 : decode prog_8_method_8_code 0 = .ok (.aload_n 0, 1) := by decide +kernel
theorem d_W_watch_1 : decode prog_8_method_8_code 1 = .ok (.aload_n 0, 1) := by decide +kernel
theorem d_W_watch_2 : decode prog_8_method_8_code 2 = .ok (.getfield 24, 3) := by decide +kernel
theorem d_W_watch_5 : decode prog_8_method_8_code 5 = .ok (.iconst 1, 1) := by decide +kernel
theorem d_W_watch_6 : decode prog_8_method_8_code 6 = .ok (.ishl, 1) := by decide +kernel
theorem d_W_watch_7 : decode prog_8_method_8_code 7 = .ok (.iload_n 1, 1) := by decide +kernel
theorem d_W_watch_8 : decode prog_8_method_8_code 8 = .ok (.ifCond .eq 7, 3) := by decide +kernel
theorem d_W_watch_11 : decode prog_8_method_8_code 11 = .ok (.iconst 0, 1) := by decide +kernel
theorem d_W_watch_12 : decode prog_8_method_8_code 12 = .ok (.goto 4, 3) := by decide +kernel
theorem d_W_watch_15 : decode prog_8_method_8_code 15 = .ok (.iconst 1, 1) := by decide +kernel
theorem d_W_watch_16 : decode prog_8_method_8_code 16 = .ok (.ior, 1) := by decide +kernel
theorem d_W_watch_17 : decode prog_8_method_8_code 17 = .ok (.ldc 85, 2) := by decide +kernel
theorem d_W_watch_19 : decode prog_8_method_8_code 19 = .ok (.iand, 1) := by decide +kernel
theorem d_W_watch_20 : decode prog_8_method_8_code 20 = .ok (.putfield 24, 3) := by decide +kernel
theorem d_W_watch_23 : decode prog_8_method_8_code 23 = .ok (.aload_n 0, 1) := by decide +kernel
theorem d_W_watch_24 : decode prog_8_method_8_code 24 = .ok (.getfield 24, 3) := by decide +kernel
theorem d_W_watch_27 : decode prog_8_method_8_code 27 = .ok (.invokestatic 41, 3) := by decide +kernel
theorem d_W_watch_30 : decode prog_8_method_8_code 30 = .ok (.iconst 4, 1) := by decide +kernel
theorem d_W_watch_31 : decode prog_8_method_8_code 31 = .ok (.if_icmp .lt 13, 3) := by decide +kernel
theorem d_W_watch_34 : decode prog_8_method_8_code 34 = .ok (.aload_n 0, 1) := by decide +kernel
theorem d_W_watch_35 : decode prog_8_method_8_code 35 = .ok (.iconst 0, 1) := by decide +kernel
theorem d_W_watch_36 : decode prog_8_method_8_code 36 = .ok (.putfield 37, 3) := by decide +kernel
theorem d_W_watch_39 : decode prog_8_method_8_code 39 = .ok (.aload_n 0, 1) := by decide +kernel
theorem d_W_watch_40 : decode prog_8_method_8_code 40 = .ok (.iconst 0, 1) := by decide +kernel
theorem d_W_watch_41 : decode prog_8_method_8_code 41 = .ok (.putfield 20, 3) := by decide +kernel
theorem d_W_watch_44 : decode prog_8_method_8_code 44 = .ok (.return_, 1) := by decide +kernel
theorem d_W_gain_0 : decode prog_8_method_7_code 0 = .ok (.aload_n 0, 1) := by decide +kernel
theorem d_W_gain_1 : decode prog_8_method_7_code 1 = .ok (.dup, 1) := by decide +kernel
theorem d_W_gain_2 : decode prog_8_method_7_code 2 = .ok (.getfield 20, 3) := by decide +kernel
theorem d_W_gain_5 : decode prog_8_method_7_code 5 = .ok (.iconst 1, 1) := by decide +kernel
theorem d_W_gain_6 : decode prog_8_method_7_code 6 = .ok (.iadd, 1) := by decide +kernel
theorem d_W_gain_7 : decode prog_8_method_7_code 7 = .ok (.putfield 20, 3) := by decide +kernel
theorem d_W_gain_10 : decode prog_8_method_7_code 10 = .ok (.aload_n 0, 1) := by decide +kernel
theorem d_W_gain_11 : decode prog_8_method_7_code 11 = .ok (.getfield 20, 3) := by decide +kernel
theorem d_W_gain_14 : decode prog_8_method_7_code 14 = .ok (.bipush 8, 2) := by decide +kernel
theorem d_W_gain_16 : decode prog_8_method_7_code 16 = .ok (.if_icmp .lt 13, 3) := by decide +kernel
theorem d_W_gain_19 : decode prog_8_method_7_code 19 = .ok (.aload_n 0, 1) := by decide +kernel
theorem d_W_gain_20 : decode prog_8_method_7_code 20 = .ok (.iconst 1, 1) := by decide +kernel
theorem d_W_gain_21 : decode prog_8_method_7_code 21 = .ok (.putfield 37, 3) := by decide +kernel
theorem d_W_gain_24 : decode prog_8_method_7_code 24 = .ok (.aload_n 0, 1) := by decide +kernel
theorem d_W_gain_25 : decode prog_8_method_7_code 25 = .ok (.iconst 0, 1) := by decide +kernel
theorem d_W_gain_26 : decode prog_8_method_7_code 26 = .ok (.putfield 24, 3) := by decide +kernel
theorem d_W_gain_29 : decode prog_8_method_7_code 29 = .ok (.return_, 1) := by decide +kernel
theorem d_W_lastWord_0 : decode prog_8_method_3_code 0 = .ok (.aload_n 0, 1) := by decide +kernel
theorem d_W_lastWord_1 : decode prog_8_method_3_code 1 = .ok (.getfield 27, 3) := by decide +kernel
theorem d_W_lastWord_4 : decode prog_8_method_3_code 4 = .ok (.lreturn, 1) := by decide +kernel
theorem d_T_hasPlus_0 : decode prog_6_method_3_code 0 = .ok (.aload_n 0, 1) := by decide +kernel
theorem d_T_hasPlus_1 : decode prog_6_method_3_code 1 = .ok (.getfield 9, 3) := by decide +kernel
theorem d_T_hasPlus_4 : decode prog_6_method_3_code 4 = .ok (.ireturn, 1) := by decide +kernel
theorem d_T_restart_0 : decode prog_6_method_2_code 0 = .ok (.aload_n 0, 1) := by decide +kernel
theorem d_T_restart_1 : decode prog_6_method_2_code 1 = .ok (.invokevirtual 25, 3) := by decide +kernel
theorem d_T_restart_4 : decode prog_6_method_2_code 4 = .ok (.aload_n 0, 1) := by decide +kernel
theorem d_T_restart_5 : decode prog_6_method_2_code 5 = .ok (.iconst 0, 1) := by decide +kernel
theorem d_T_restart_6 : decode prog_6_method_2_code 6 = .ok (.putfield 9, 3) := by decide +kernel
theorem d_T_restart_9 : decode prog_6_method_2_code 9 = .ok (.aload_n 0, 1) := by decide +kernel
theorem d_T_restart_10 : decode prog_6_method_2_code 10 = .ok (.iconst 0, 1) := by decide +kernel
theorem d_T_restart_11 : decode prog_6_method_2_code 11 = .ok (.putfield 15, 3) := by decide +kernel
theorem d_T_restart_14 : decode prog_6_method_2_code 14 = .ok (.aload_n 0, 1) := by decide +kernel
theorem d_T_restart_15 : decode prog_6_method_2_code 15 = .ok (.iconst 0, 1) := by decide +kernel
theorem d_T_restart_16 : decode prog_6_method_2_code 16 = .ok (.putfield 18, 3) := by decide +kernel
theorem d_T_restart_19 : decode prog_6_method_2_code 19 = .ok (.aload_n 0, 1) := by decide +kernel
theorem d_T_restart_20 : decode prog_6_method_2_code 20 = .ok (.iconst 0, 1) := by decide +kernel
theorem d_T_restart_21 : decode prog_6_method_2_code 21 = .ok (.putfield 22, 3) := by decide +kernel
theorem d_T_restart_24 : decode prog_6_method_2_code 24 = .ok (.return_, 1) := by decide +kernel
theorem d_W_restart_0 : decode prog_8_method_2_code 0 = .ok (.aload_n 0, 1) := by decide +kernel
theorem d_W_restart_1 : decode prog_8_method_2_code 1 = .ok (.invokevirtual 31, 3) := by decide +kernel
theorem d_W_restart_4 : decode prog_8_method_2_code 4 = .ok (.aload_n 0, 1) := by decide +kernel
theorem d_W_restart_5 : decode prog_8_method_2_code 5 = .ok (.getfield 14, 3) := by decide +kernel
theorem d_W_restart_8 : decode prog_8_method_2_code 8 = .ok (.invokevirtual 34, 3) := by decide +kernel
theorem d_W_restart_11 : decode prog_8_method_2_code 11 = .ok (.aload_n 0, 1) := by decide +kernel
theorem d_W_restart_12 : decode prog_8_method_2_code 12 = .ok (.iconst 0, 1) := by decide +kernel
theorem d_W_restart_13 : decode prog_8_method_2_code 13 = .ok (.putfield 20, 3) := by decide +kernel
theorem d_W_restart_16 : decode prog_8_method_2_code 16 = .ok (.aload_n 0, 1) := by decide +kernel
theorem d_W_restart_17 : decode prog_8_method_2_code 17 = .ok (.iconst 0, 1) := by decide +kernel
theorem d_W_restart_18 : decode prog_8_method_2_code 18 = .ok (.putfield 24, 3) := by decide +kernel
theorem d_W_restart_21 : decode prog_8_method_2_code 21 = .ok (.aload_n 0, 1) := by decide +kernel
theorem d_W_restart_22 : decode prog_8_method_2_code 22 = .ok (.lconst 0, 1) := by decide +kernel
theorem d_W_restart_23 : decode prog_8_method_2_code 23 = .ok (.putfield 27, 3) := by decide +kernel
theorem d_W_restart_26 : decode prog_8_method_2_code 26 = .ok (.return_, 1) := by decide +kernel
theorem d_T_marks_0 : decode prog_6_method_4_code 0 = .ok (.aload_n 0, 1) := by decide +kernel
theorem d_T_marks_1 : decode prog_6_method_4_code 1 = .ok (.getfield 18, 3) := by decide +kernel
theorem d_T_marks_4 : decode prog_6_method_4_code 4 = .ok (.ireturn, 1) := by decide +kernel
theorem d_W_marks_0 : decode prog_8_method_4_code 0 = .ok (.aload_n 0, 1) := by decide +kernel
theorem d_W_marks_1 : decode prog_8_method_4_code 1 = .ok (.getfield 37, 3) := by decide +kernel
theorem d_W_marks_4 : decode prog_8_method_4_code 4 = .ok (.ifCond .eq 13, 3) := by decide +kernel
theorem d_W_marks_7 : decode prog_8_method_4_code 7 = .ok (.aload_n 0, 1) := by decide +kernel
theorem d_W_marks_8 : decode prog_8_method_4_code 8 = .ok (.getfield 24, 3) := by decide +kernel
theorem d_W_marks_11 : decode prog_8_method_4_code 11 = .ok (.invokestatic 41, 3) := by decide +kernel
theorem d_W_marks_14 : decode prog_8_method_4_code 14 = .ok (.goto 7, 3) := by decide +kernel
theorem d_W_marks_17 : decode prog_8_method_4_code 17 = .ok (.aload_n 0, 1) := by decide +kernel
theorem d_W_marks_18 : decode prog_8_method_4_code 18 = .ok (.getfield 20, 3) := by decide +kernel
theorem d_W_marks_21 : decode prog_8_method_4_code 21 = .ok (.ireturn, 1) := by decide +kernel
end
section
theorem d_X_init_0 : decode prog_1_method_1_code 0 = .ok (.aload_n 0, 1) := by decide +kernel
theorem d_X_init_1 : decode prog_1_method_1_code 1 = .ok (.invokespecial 1, 3) := by decide +kernel
theorem d_X_init_4 : decode prog_1_method_1_code 4 = .ok (.aload_n 0, 1) := by decide +kernel
theorem d_X_init_5 : decode prog_1_method_1_code 5 = .ok (.new 7, 3) := by decide +kernel
theorem d_X_init_8 : decode prog_1_method_1_code 8 = .ok (.dup, 1) := by decide +kernel
theorem d_X_init_9 : decode prog_1_method_1_code 9 = .ok (.invokespecial 9, 3) := by decide +kernel
theorem d_X_init_12 : decode prog_1_method_1_code 12 = .ok (.putfield 10, 3) := by decide +kernel
theorem d_X_init_15 : decode prog_1_method_1_code 15 = .ok (.aload_n 0, 1) := by decide +kernel
theorem d_X_init_16 : decode prog_1_method_1_code 16 = .ok (.new 7, 3) := by decide +kernel
theorem d_X_init_19 : decode prog_1_method_1_code 19 = .ok (.dup, 1) := by decide +kernel
theorem d_X_init_20 : decode prog_1_method_1_code 20 = .ok (.invokespecial 9, 3) := by decide +kernel
theorem d_X_init_23 : decode prog_1_method_1_code 23 = .ok (.putfield 16, 3) := by decide +kernel
theorem d_X_init_26 : decode prog_1_method_1_code 26 = .ok (.aload_n 0, 1) := by decide +kernel
theorem d_X_init_27 : decode prog_1_method_1_code 27 = .ok (.new 19, 3) := by decide +kernel
theorem d_X_init_30 : decode prog_1_method_1_code 30 = .ok (.dup, 1) := by decide +kernel
theorem d_X_init_31 : decode prog_1_method_1_code 31 = .ok (.aload_n 0, 1) := by decide +kernel
theorem d_X_init_32 : decode prog_1_method_1_code 32 = .ok (.getfield 10, 3) := by decide +kernel
theorem d_X_init_35 : decode prog_1_method_1_code 35 = .ok (.invokespecial 21, 3) := by decide +kernel
theorem d_X_init_38 : decode prog_1_method_1_code 38 = .ok (.putfield 24, 3) := by decide +kernel
theorem d_X_init_41 : decode prog_1_method_1_code 41 = .ok (.aload_n 0, 1) := by decide +kernel
theorem d_X_init_42 : decode prog_1_method_1_code 42 = .ok (.new 28, 3) := by decide +kernel
theorem d_X_init_45 : decode prog_1_method_1_code 45 = .ok (.dup, 1) := by decide +kernel
theorem d_X_init_46 : decode prog_1_method_1_code 46 = .ok (.aload_n 0, 1) := by decide +kernel
theorem d_X_init_47 : decode prog_1_method_1_code 47 = .ok (.getfield 16, 3) := by decide +kernel
theorem d_X_init_50 : decode prog_1_method_1_code 50 = .ok (.invokespecial 30, 3) := by decide +kernel
theorem d_X_init_53 : decode prog_1_method_1_code 53 = .ok (.putfield 31, 3) := by decide +kernel
theorem d_X_init_56 : decode prog_1_method_1_code 56 = .ok (.aload_n 0, 1) := by decide +kernel
theorem d_X_init_57 : decode prog_1_method_1_code 57 = .ok (.new 35, 3) := by decide +kernel
theorem d_X_init_60 : decode prog_1_method_1_code 60 = .ok (.dup, 1) := by decide +kernel
theorem d_X_init_61 : decode prog_1_method_1_code 61 = .ok (.invokespecial 37, 3) := by decide +kernel
theorem d_X_init_64 : decode prog_1_method_1_code 64 = .ok (.putfield 38, 3) := by decide +kernel
theorem d_X_init_67 : decode prog_1_method_1_code 67 = .ok (.aload_n 0, 1) := by decide +kernel
theorem d_X_init_68 : decode prog_1_method_1_code 68 = .ok (.iconst 0, 1) := by decide +kernel
theorem d_X_init_69 : decode prog_1_method_1_code 69 = .ok (.putfield 42, 3) := by decide +kernel
theorem d_X_init_72 : decode prog_1_method_1_code 72 = .ok (.return_, 1) := by decide +kernel
theorem d_X_receive_0 : decode prog_1_method_5_code 0 = .ok (.aload_n 0, 1) := by decide +kernel
theorem d_X_receive_1 : decode prog_1_method_5_code 1 = .ok (.getfield 24, 3) := by decide +kernel
theorem d_X_receive_4 : decode prog_1_method_5_code 4 = .ok (.invokevirtual 78, 3) := by decide +kernel
theorem d_X_receive_7 : decode prog_1_method_5_code 7 = .ok (.ireturn, 1) := by decide +kernel
theorem d_X_take_0 : decode prog_1_method_7_code 0 = .ok (.aload_n 0, 1) := by decide +kernel
theorem d_X_take_1 : decode prog_1_method_7_code 1 = .ok (.getfield 31, 3) := by decide +kernel
theorem d_X_take_4 : decode prog_1_method_7_code 4 = .ok (.invokevirtual 91, 3) := by decide +kernel
theorem d_X_take_7 : decode prog_1_method_7_code 7 = .ok (.ireturn, 1) := by decide +kernel
theorem d_X_word_0 : decode prog_1_method_8_code 0 = .ok (.aload_n 0, 1) := by decide +kernel
theorem d_X_word_1 : decode prog_1_method_8_code 1 = .ok (.getfield 31, 3) := by decide +kernel
theorem d_X_word_4 : decode prog_1_method_8_code 4 = .ok (.invokevirtual 92, 3) := by decide +kernel
theorem d_X_word_7 : decode prog_1_method_8_code 7 = .ok (.lreturn, 1) := by decide +kernel
theorem d_X_isPlus_0 : decode prog_1_method_14_code 0 = .ok (.iload_n 1, 1) := by decide +kernel
theorem d_X_isPlus_1 : decode prog_1_method_14_code 1 = .ok (.ifCond .eq 10, 3) := by decide +kernel
theorem d_X_isPlus_4 : decode prog_1_method_14_code 4 = .ok (.aload_n 0, 1) := by decide +kernel
theorem d_X_isPlus_5 : decode prog_1_method_14_code 5 = .ok (.getfield 42, 3) := by decide +kernel
theorem d_X_isPlus_8 : decode prog_1_method_14_code 8 = .ok (.goto 10, 3) := by decide +kernel
theorem d_X_isPlus_11 : decode prog_1_method_14_code 11 = .ok (.aload_n 0, 1) := by decide +kernel
theorem d_X_isPlus_12 : decode prog_1_method_14_code 12 = .ok (.getfield 24, 3) := by decide +kernel
theorem d_X_isPlus_15 : decode prog_1_method_14_code 15 = .ok (.invokevirtual 154, 3) := by decide +kernel
theorem d_X_isPlus_18 : decode prog_1_method_14_code 18 = .ok (.ireturn, 1) := by decide +kernel
theorem d_X_clear_0 : decode prog_1_method_15_code 0 = .ok (.aload_n 0, 1) := by decide +kernel
theorem d_X_clear_1 : decode prog_1_method_15_code 1 = .ok (.getfield 10, 3) := by decide +kernel
theorem d_X_clear_4 : decode prog_1_method_15_code 4 = .ok (.invokevirtual 157, 3) := by decide +kernel
theorem d_X_clear_7 : decode prog_1_method_15_code 7 = .ok (.aload_n 0, 1) := by decide +kernel
theorem d_X_clear_8 : decode prog_1_method_15_code 8 = .ok (.getfield 16, 3) := by decide +kernel
theorem d_X_clear_11 : decode prog_1_method_15_code 11 = .ok (.invokevirtual 157, 3) := by decide +kernel
theorem d_X_clear_14 : decode prog_1_method_15_code 14 = .ok (.aload_n 0, 1) := by decide +kernel
theorem d_X_clear_15 : decode prog_1_method_15_code 15 = .ok (.getfield 24, 3) := by decide +kernel
theorem d_X_clear_18 : decode prog_1_method_15_code 18 = .ok (.invokevirtual 160, 3) := by decide +kernel
theorem d_X_clear_21 : decode prog_1_method_15_code 21 = .ok (.aload_n 0, 1) := by decide +kernel
theorem d_X_clear_22 : decode prog_1_method_15_code 22 = .ok (.getfield 31, 3) := by decide +kernel
theorem d_X_clear_25 : decode prog_1_method_15_code 25 = .ok (.invokevirtual 163, 3) := by decide +kernel
theorem d_X_clear_28 : decode prog_1_method_15_code 28 = .ok (.aload_n 0, 1) := by decide +kernel
theorem d_X_clear_29 : decode prog_1_method_15_code 29 = .ok (.getfield 38, 3) := by decide +kernel
theorem d_X_clear_32 : decode prog_1_method_15_code 32 = .ok (.invokevirtual 164, 3) := by decide +kernel
theorem d_X_clear_35 : decode prog_1_method_15_code 35 = .ok (.aload_n 0, 1) := by decide +kernel
theorem d_X_clear_36 : decode prog_1_method_15_code 36 = .ok (.iconst 0, 1) := by decide +kernel
theorem d_X_clear_37 : decode prog_1_method_15_code 37 = .ok (.putfield 42, 3) := by decide +kernel
theorem d_X_clear_40 : decode prog_1_method_15_code 40 = .ok (.return_, 1) := by decide +kernel
theorem d_X_code_0 : decode prog_1_method_2_code 0 = .ok (.iload_n 1, 1) := by decide +kernel
theorem d_X_code_1 : decode prog_1_method_2_code 1 = .ok (.invokestatic 46, 3) := by decide +kernel
theorem d_X_code_4 : decode prog_1_method_2_code 4 = .ok (.iload_n 1, 1) := by decide +kernel
theorem d_X_code_5 : decode prog_1_method_2_code 5 = .ok (.iload_n 2, 1) := by decide +kernel
theorem d_X_code_6 : decode prog_1_method_2_code 6 = .ok (.invokestatic 50, 3) := by decide +kernel
theorem d_X_code_9 : decode prog_1_method_2_code 9 = .ok (.ireturn, 1) := by decide +kernel
theorem d_X_refuseNoSymbol_0 : decode prog_1_method_17_code 0 = .ok (.iload_n 0, 1) := by decide +kernel
theorem d_X_refuseNoSymbol_1 : decode prog_1_method_17_code 1 = .ok (.invokestatic 169, 3) := by decide +kernel
theorem d_X_refuseNoSymbol_4 : decode prog_1_method_17_code 4 = .ok (.ifCond .ne 13, 3) := by decide +kernel
theorem d_X_refuseNoSymbol_7 : decode prog_1_method_17_code 7 = .ok (.new 56, 3) := by decide +kernel
theorem d_X_refuseNoSymbol_10 : decode prog_1_method_17_code 10 = .ok (.dup, 1) := by decide +kernel
theorem d_X_refuseNoSymbol_11 : decode prog_1_method_17_code 11 = .ok (.ldc 172, 2) := by decide +kernel
theorem d_X_refuseNoSymbol_13 : decode prog_1_method_17_code 13 = .ok (.invokespecial 60, 3) := by decide +kernel
theorem d_X_refuseNoSymbol_16 : decode prog_1_method_17_code 16 = .ok (.athrow, 1) := by decide +kernel
theorem d_X_refuseNoSymbol_17 : decode prog_1_method_17_code 17 = .ok (.return_, 1) := by decide +kernel
theorem d_X_symbol_0 : decode prog_1_method_3_code 0 = .ok (.iload_n 1, 1) := by decide +kernel
theorem d_X_symbol_1 : decode prog_1_method_3_code 1 = .ok (.ifCond .lt 10, 3) := by decide +kernel
theorem d_X_symbol_4 : decode prog_1_method_3_code 4 = .ok (.iload_n 1, 1) := by decide +kernel
theorem d_X_symbol_5 : decode prog_1_method_3_code 5 = .ok (.sipush 1024, 3) := by decide +kernel
theorem d_X_symbol_8 : decode prog_1_method_3_code 8 = .ok (.if_icmp .lt 13, 3) := by decide +kernel
theorem d_X_symbol_11 : decode prog_1_method_3_code 11 = .ok (.new 56, 3) := by decide +kernel
theorem d_X_symbol_14 : decode prog_1_method_3_code 14 = .ok (.dup, 1) := by decide +kernel
theorem d_X_symbol_15 : decode prog_1_method_3_code 15 = .ok (.ldc 58, 2) := by decide +kernel
theorem d_X_symbol_17 : decode prog_1_method_3_code 17 = .ok (.invokespecial 60, 3) := by decide +kernel
theorem d_X_symbol_20 : decode prog_1_method_3_code 20 = .ok (.athrow, 1) := by decide +kernel
theorem d_X_symbol_21 : decode prog_1_method_3_code 21 = .ok (.iload_n 1, 1) := by decide +kernel
theorem d_X_symbol_22 : decode prog_1_method_3_code 22 = .ok (.iconst 0, 1) := by decide +kernel
theorem d_X_symbol_23 : decode prog_1_method_3_code 23 = .ok (.invokestatic 63, 3) := by decide +kernel
theorem d_X_symbol_26 : decode prog_1_method_3_code 26 = .ok (.istore_n 2, 1) := by decide +kernel
theorem d_X_symbol_27 : decode prog_1_method_3_code 27 = .ok (.iload_n 2, 1) := by decide +kernel
theorem d_X_symbol_28 : decode prog_1_method_3_code 28 = .ok (.iconst (-1), 1) := by decide +kernel
theorem d_X_symbol_29 : decode prog_1_method_3_code 29 = .ok (.if_icmp .eq 7, 3) := by decide +kernel
theorem d_X_symbol_32 : decode prog_1_method_3_code 32 = .ok (.iload_n 2, 1) := by decide +kernel
theorem d_X_symbol_33 : decode prog_1_method_3_code 33 = .ok (.goto 8, 3) := by decide +kernel
theorem d_X_symbol_36 : decode prog_1_method_3_code 36 = .ok (.iload_n 1, 1) := by decide +kernel
theorem d_X_symbol_37 : decode prog_1_method_3_code 37 = .ok (.iconst 1, 1) := by decide +kernel
theorem d_X_symbol_38 : decode prog_1_method_3_code 38 = .ok (.invokestatic 63, 3) := by decide +kernel
theorem d_X_symbol_41 : decode prog_1_method_3_code 41 = .ok (.ireturn, 1) := by decide +kernel
theorem d_X_send_0 : decode prog_1_method_4_code 0 = .ok (.iload_n 1, 1) := by decide +kernel
theorem d_X_send_1 : decode prog_1_method_4_code 1 = .ok (.invokestatic 46, 3) := by decide +kernel
theorem d_X_send_4 : decode prog_1_method_4_code 4 = .ok (.aload_n 0, 1) := by decide +kernel
theorem d_X_send_5 : decode prog_1_method_4_code 5 = .ok (.getfield 10, 3) := by decide +kernel
theorem d_X_send_8 : decode prog_1_method_4_code 8 = .ok (.bipush 10, 2) := by decide +kernel
theorem d_X_send_10 : decode prog_1_method_4_code 10 = .ok (.invokestatic 66, 3) := by decide +kernel
theorem d_X_send_13 : decode prog_1_method_4_code 13 = .ok (.iload_n 1, 1) := by decide +kernel
theorem d_X_send_14 : decode prog_1_method_4_code 14 = .ok (.aload_n 0, 1) := by decide +kernel
theorem d_X_send_15 : decode prog_1_method_4_code 15 = .ok (.getfield 42, 3) := by decide +kernel
theorem d_X_send_18 : decode prog_1_method_4_code 18 = .ok (.invokestatic 50, 3) := by decide +kernel
theorem d_X_send_21 : decode prog_1_method_4_code 21 = .ok (.istore_n 2, 1) := by decide +kernel
theorem d_X_send_22 : decode prog_1_method_4_code 22 = .ok (.aload_n 0, 1) := by decide +kernel
theorem d_X_send_23 : decode prog_1_method_4_code 23 = .ok (.getfield 10, 3) := by decide +kernel
theorem d_X_send_26 : decode prog_1_method_4_code 26 = .ok (.iload_n 2, 1) := by decide +kernel
theorem d_X_send_27 : decode prog_1_method_4_code 27 = .ok (.bipush 10, 2) := by decide +kernel
theorem d_X_send_29 : decode prog_1_method_4_code 29 = .ok (.invokevirtual 70, 3) := by decide +kernel
theorem d_X_send_32 : decode prog_1_method_4_code 32 = .ok (.aload_n 0, 1) := by decide +kernel
theorem d_X_send_33 : decode prog_1_method_4_code 33 = .ok (.iload_n 2, 1) := by decide +kernel
theorem d_X_send_34 : decode prog_1_method_4_code 34 = .ok (.aload_n 0, 1) := by decide +kernel
theorem d_X_send_35 : decode prog_1_method_4_code 35 = .ok (.getfield 42, 3) := by decide +kernel
theorem d_X_send_38 : decode prog_1_method_4_code 38 = .ok (.invokestatic 74, 3) := by decide +kernel
theorem d_X_send_41 : decode prog_1_method_4_code 41 = .ok (.putfield 42, 3) := by decide +kernel
theorem d_X_send_44 : decode prog_1_method_4_code 44 = .ok (.iload_n 2, 1) := by decide +kernel
theorem d_X_send_45 : decode prog_1_method_4_code 45 = .ok (.ireturn, 1) := by decide +kernel
theorem d_X_refuseNoRoom_0 : decode prog_1_method_18_code 0 = .ok (.aload_n 0, 1) := by decide +kernel
theorem d_X_refuseNoRoom_1 : decode prog_1_method_18_code 1 = .ok (.iload_n 1, 1) := by decide +kernel
theorem d_X_refuseNoRoom_2 : decode prog_1_method_18_code 2 = .ok (.invokevirtual 174, 3) := by decide +kernel
theorem d_X_refuseNoRoom_5 : decode prog_1_method_18_code 5 = .ok (.ifCond .ne 13, 3) := by decide +kernel
theorem d_X_refuseNoRoom_8 : decode prog_1_method_18_code 8 = .ok (.new 177, 3) := by decide +kernel
theorem d_X_refuseNoRoom_11 : decode prog_1_method_18_code 11 = .ok (.dup, 1) := by decide +kernel
theorem d_X_refuseNoRoom_12 : decode prog_1_method_18_code 12 = .ok (.ldc 179, 2) := by decide +kernel
theorem d_X_refuseNoRoom_14 : decode prog_1_method_18_code 14 = .ok (.invokespecial 181, 3) := by decide +kernel
theorem d_X_refuseNoRoom_17 : decode prog_1_method_18_code 17 = .ok (.athrow, 1) := by decide +kernel
theorem d_X_refuseNoRoom_18 : decode prog_1_method_18_code 18 = .ok (.return_, 1) := by decide +kernel
theorem d_X_put_0 : decode prog_1_method_6_code 0 = .ok (.aload_n 0, 1) := by decide +kernel
theorem d_X_put_1 : decode prog_1_method_6_code 1 = .ok (.getfield 16, 3) := by decide +kernel
theorem d_X_put_4 : decode prog_1_method_6_code 4 = .ok (.bipush 66, 2) := by decide +kernel
theorem d_X_put_6 : decode prog_1_method_6_code 6 = .ok (.invokestatic 66, 3) := by decide +kernel
theorem d_X_put_9 : decode prog_1_method_6_code 9 = .ok (.aload_n 0, 1) := by decide +kernel
theorem d_X_put_10 : decode prog_1_method_6_code 10 = .ok (.getfield 16, 3) := by decide +kernel
theorem d_X_put_13 : decode prog_1_method_6_code 13 = .ok (.iload_n 3, 1) := by decide +kernel
theorem d_X_put_14 : decode prog_1_method_6_code 14 = .ok (.ifCond .eq 7, 3) := by decide +kernel
theorem d_X_put_17 : decode prog_1_method_6_code 17 = .ok (.iconst 2, 1) := by decide +kernel
theorem d_X_put_18 : decode prog_1_method_6_code 18 = .ok (.goto 4, 3) := by decide +kernel
theorem d_X_put_21 : decode prog_1_method_6_code 21 = .ok (.iconst 1, 1) := by decide +kernel
theorem d_X_put_22 : decode prog_1_method_6_code 22 = .ok (.iconst 2, 1) := by decide +kernel
theorem d_X_put_23 : decode prog_1_method_6_code 23 = .ok (.invokevirtual 70, 3) := by decide +kernel
theorem d_X_put_26 : decode prog_1_method_6_code 26 = .ok (.iconst 0, 1) := by decide +kernel
theorem d_X_put_27 : decode prog_1_method_6_code 27 = .ok (.istore 4, 2) := by decide +kernel
theorem d_X_put_29 : decode prog_1_method_6_code 29 = .ok (.iload 4, 2) := by decide +kernel
theorem d_X_put_31 : decode prog_1_method_6_code 31 = .ok (.bipush 64, 2) := by decide +kernel
theorem d_X_put_33 : decode prog_1_method_6_code 33 = .ok (.if_icmp .ge 35, 3) := by decide +kernel
theorem d_X_put_36 : decode prog_1_method_6_code 36 = .ok (.lload_n 1, 1) := by decide +kernel
theorem d_X_put_37 : decode prog_1_method_6_code 37 = .ok (.iload 4, 2) := by decide +kernel
theorem d_X_put_39 : decode prog_1_method_6_code 39 = .ok (.lushr, 1) := by decide +kernel
theorem d_X_put_40 : decode prog_1_method_6_code 40 = .ok (.l2i, 1) := by decide +kernel
theorem d_X_put_41 : decode prog_1_method_6_code 41 = .ok (.iconst 1, 1) := by decide +kernel
theorem d_X_put_42 : decode prog_1_method_6_code 42 = .ok (.iand, 1) := by decide +kernel
theorem d_X_put_43 : decode prog_1_method_6_code 43 = .ok (.istore 5, 2) := by decide +kernel
theorem d_X_put_45 : decode prog_1_method_6_code 45 = .ok (.aload_n 0, 1) := by decide +kernel
theorem d_X_put_46 : decode prog_1_method_6_code 46 = .ok (.getfield 16, 3) := by decide +kernel
theorem d_X_put_49 : decode prog_1_method_6_code 49 = .ok (.aload_n 0, 1) := by decide +kernel
theorem d_X_put_50 : decode prog_1_method_6_code 50 = .ok (.getfield 38, 3) := by decide +kernel
theorem d_X_put_53 : decode prog_1_method_6_code 53 = .ok (.iload 5, 2) := by decide +kernel
theorem d_X_put_55 : decode prog_1_method_6_code 55 = .ok (.invokevirtual 84, 3) := by decide +kernel
theorem d_X_put_58 : decode prog_1_method_6_code 58 = .ok (.iconst 1, 1) := by decide +kernel
theorem d_X_put_59 : decode prog_1_method_6_code 59 = .ok (.invokevirtual 70, 3) := by decide +kernel
theorem d_X_put_62 : decode prog_1_method_6_code 62 = .ok (.iinc 4 1, 3) := by decide +kernel
theorem d_X_put_65 : decode prog_1_method_6_code 65 = .ok (.goto (-36), 3) := by decide +kernel
theorem d_X_put_68 : decode prog_1_method_6_code 68 = .ok (.aload_n 0, 1) := by decide +kernel
theorem d_X_put_69 : decode prog_1_method_6_code 69 = .ok (.getfield 16, 3) := by decide +kernel
theorem d_X_put_72 : decode prog_1_method_6_code 72 = .ok (.invokevirtual 88, 3) := by decide +kernel
theorem d_X_put_75 : decode prog_1_method_6_code 75 = .ok (.ireturn, 1) := by decide +kernel
theorem d_X_raw_0 : decode prog_1_method_9_code 0 = .ok (.aload_n 0, 1) := by decide +kernel
theorem d_X_raw_1 : decode prog_1_method_9_code 1 = .ok (.iload_n 1, 1) := by decide +kernel
theorem d_X_raw_2 : decode prog_1_method_9_code 2 = .ok (.invokevirtual 96, 3) := by decide +kernel
theorem d_X_raw_5 : decode prog_1_method_9_code 5 = .ok (.astore 4, 2) := by decide +kernel
theorem d_X_raw_7 : decode prog_1_method_9_code 7 = .ok (.iload_n 3, 1) := by decide +kernel
theorem d_X_raw_8 : decode prog_1_method_9_code 8 = .ok (.ifCond .lt 9, 3) := by decide +kernel
theorem d_X_raw_11 : decode prog_1_method_9_code 11 = .ok (.iload_n 3, 1) := by decide +kernel
theorem d_X_raw_12 : decode prog_1_method_9_code 12 = .ok (.bipush 32, 2) := by decide +kernel
theorem d_X_raw_14 : decode prog_1_method_9_code 14 = .ok (.if_icmp .le 13, 3) := by decide +kernel
theorem d_X_raw_17 : decode prog_1_method_9_code 17 = .ok (.new 56, 3) := by decide +kernel
theorem d_X_raw_20 : decode prog_1_method_9_code 20 = .ok (.dup, 1) := by decide +kernel
theorem d_X_raw_21 : decode prog_1_method_9_code 21 = .ok (.ldc 100, 2) := by decide +kernel
theorem d_X_raw_23 : decode prog_1_method_9_code 23 = .ok (.invokespecial 60, 3) := by decide +kernel
theorem d_X_raw_26 : decode prog_1_method_9_code 26 = .ok (.athrow, 1) := by decide +kernel
theorem d_X_raw_27 : decode prog_1_method_9_code 27 = .ok (.aload 4, 2) := by decide +kernel
theorem d_X_raw_29 : decode prog_1_method_9_code 29 = .ok (.iload_n 3, 1) := by decide +kernel
theorem d_X_raw_30 : decode prog_1_method_9_code 30 = .ok (.invokestatic 66, 3) := by decide +kernel
theorem d_X_raw_33 : decode prog_1_method_9_code 33 = .ok (.aload 4, 2) := by decide +kernel
theorem d_X_raw_35 : decode prog_1_method_9_code 35 = .ok (.iload_n 2, 1) := by decide +kernel
theorem d_X_raw_36 : decode prog_1_method_9_code 36 = .ok (.iload_n 3, 1) := by decide +kernel
theorem d_X_raw_37 : decode prog_1_method_9_code 37 = .ok (.invokevirtual 70, 3) := by decide +kernel
theorem d_X_raw_40 : decode prog_1_method_9_code 40 = .ok (.aload 4, 2) := by decide +kernel
theorem d_X_raw_42 : decode prog_1_method_9_code 42 = .ok (.invokevirtual 88, 3) := by decide +kernel
theorem d_X_raw_45 : decode prog_1_method_9_code 45 = .ok (.ireturn, 1) := by decide +kernel
theorem d_X_lineOf_0 : decode prog_1_method_16_code 0 = .ok (.iload_n 1, 1) := by decide +kernel
theorem d_X_lineOf_1 : decode prog_1_method_16_code 1 = .ok (.ifCond .eq 18, 3) := by decide +kernel
theorem d_X_lineOf_4 : decode prog_1_method_16_code 4 = .ok (.iload_n 1, 1) := by decide +kernel
theorem d_X_lineOf_5 : decode prog_1_method_16_code 5 = .ok (.iconst 1, 1) := by decide +kernel
theorem d_X_lineOf_6 : decode prog_1_method_16_code 6 = .ok (.if_icmp .eq 13, 3) := by decide +kernel
theorem d_X_lineOf_9 : decode prog_1_method_16_code 9 = .ok (.new 56, 3) := by decide +kernel
theorem d_X_lineOf_12 : decode prog_1_method_16_code 12 = .ok (.dup, 1) := by decide +kernel
theorem d_X_lineOf_13 : decode prog_1_method_16_code 13 = .ok (.ldc 167, 2) := by decide +kernel
theorem d_X_lineOf_15 : decode prog_1_method_16_code 15 = .ok (.invokespecial 60, 3) := by decide +kernel
theorem d_X_lineOf_18 : decode prog_1_method_16_code 18 = .ok (.athrow, 1) := by decide +kernel
theorem d_X_lineOf_19 : decode prog_1_method_16_code 19 = .ok (.iload_n 1, 1) := by decide +kernel
theorem d_X_lineOf_20 : decode prog_1_method_16_code 20 = .ok (.ifCond .ne 10, 3) := by decide +kernel
theorem d_X_lineOf_23 : decode prog_1_method_16_code 23 = .ok (.aload_n 0, 1) := by decide +kernel
theorem d_X_lineOf_24 : decode prog_1_method_16_code 24 = .ok (.getfield 10, 3) := by decide +kernel
theorem d_X_lineOf_27 : decode prog_1_method_16_code 27 = .ok (.goto 7, 3) := by decide +kernel
theorem d_X_lineOf_30 : decode prog_1_method_16_code 30 = .ok (.aload_n 0, 1) := by decide +kernel
theorem d_X_lineOf_31 : decode prog_1_method_16_code 31 = .ok (.getfield 16, 3) := by decide +kernel
theorem d_X_lineOf_34 : decode prog_1_method_16_code 34 = .ok (.areturn, 1) := by decide +kernel
theorem d_X_bend_0 : decode prog_1_method_10_code 0 = .ok (.aload_n 0, 1) := by decide +kernel
theorem d_X_bend_1 : decode prog_1_method_10_code 1 = .ok (.iload_n 1, 1) := by decide +kernel
theorem d_X_bend_2 : decode prog_1_method_10_code 2 = .ok (.invokevirtual 96, 3) := by decide +kernel
theorem d_X_bend_5 : decode prog_1_method_10_code 5 = .ok (.astore_n 3, 1) := by decide +kernel
theorem d_X_bend_6 : decode prog_1_method_10_code 6 = .ok (.aload_n 3, 1) := by decide +kernel
theorem d_X_bend_7 : decode prog_1_method_10_code 7 = .ok (.iload_n 2, 1) := by decide +kernel
theorem d_X_bend_8 : decode prog_1_method_10_code 8 = .ok (.invokevirtual 102, 3) := by decide +kernel
theorem d_X_bend_11 : decode prog_1_method_10_code 11 = .ok (.ifCond .ne 13, 3) := by decide +kernel
theorem d_X_bend_14 : decode prog_1_method_10_code 14 = .ok (.new 106, 3) := by decide +kernel
theorem d_X_bend_17 : decode prog_1_method_10_code 17 = .ok (.dup, 1) := by decide +kernel
theorem d_X_bend_18 : decode prog_1_method_10_code 18 = .ok (.ldc 108, 2) := by decide +kernel
theorem d_X_bend_20 : decode prog_1_method_10_code 20 = .ok (.invokespecial 110, 3) := by decide +kernel
theorem d_X_bend_23 : decode prog_1_method_10_code 23 = .ok (.athrow, 1) := by decide +kernel
theorem d_X_bend_24 : decode prog_1_method_10_code 24 = .ok (.aload_n 3, 1) := by decide +kernel
theorem d_X_bend_25 : decode prog_1_method_10_code 25 = .ok (.iload_n 2, 1) := by decide +kernel
theorem d_X_bend_26 : decode prog_1_method_10_code 26 = .ok (.invokevirtual 111, 3) := by decide +kernel
theorem d_X_bend_29 : decode prog_1_method_10_code 29 = .ok (.aload_n 3, 1) := by decide +kernel
theorem d_X_bend_30 : decode prog_1_method_10_code 30 = .ok (.iload_n 2, 1) := by decide +kernel
theorem d_X_bend_31 : decode prog_1_method_10_code 31 = .ok (.invokevirtual 114, 3) := by decide +kernel
theorem d_X_bend_34 : decode prog_1_method_10_code 34 = .ok (.iconst 1, 1) := by decide +kernel
theorem d_X_bend_35 : decode prog_1_method_10_code 35 = .ok (.if_icmp .ne 7, 3) := by decide +kernel
theorem d_X_bend_38 : decode prog_1_method_10_code 38 = .ok (.iconst 1, 1) := by decide +kernel
theorem d_X_bend_39 : decode prog_1_method_10_code 39 = .ok (.goto 4, 3) := by decide +kernel
theorem d_X_bend_42 : decode prog_1_method_10_code 42 = .ok (.iconst 0, 1) := by decide +kernel
theorem d_X_bend_43 : decode prog_1_method_10_code 43 = .ok (.ireturn, 1) := by decide +kernel
theorem d_X_lose_0 : decode prog_1_method_11_code 0 = .ok (.aload_n 0, 1) := by decide +kernel
theorem d_X_lose_1 : decode prog_1_method_11_code 1 = .ok (.iload_n 1, 1) := by decide +kernel
theorem d_X_lose_2 : decode prog_1_method_11_code 2 = .ok (.invokevirtual 96, 3) := by decide +kernel
theorem d_X_lose_5 : decode prog_1_method_11_code 5 = .ok (.astore 4, 2) := by decide +kernel
theorem d_X_lose_7 : decode prog_1_method_11_code 7 = .ok (.iload_n 3, 1) := by decide +kernel
theorem d_X_lose_8 : decode prog_1_method_11_code 8 = .ok (.ifCond .ge 13, 3) := by decide +kernel
theorem d_X_lose_11 : decode prog_1_method_11_code 11 = .ok (.new 56, 3) := by decide +kernel
theorem d_X_lose_14 : decode prog_1_method_11_code 14 = .ok (.dup, 1) := by decide +kernel
theorem d_X_lose_15 : decode prog_1_method_11_code 15 = .ok (.ldc 117, 2) := by decide +kernel
theorem d_X_lose_17 : decode prog_1_method_11_code 17 = .ok (.invokespecial 60, 3) := by decide +kernel
theorem d_X_lose_20 : decode prog_1_method_11_code 20 = .ok (.athrow, 1) := by decide +kernel
theorem d_X_lose_21 : decode prog_1_method_11_code 21 = .ok (.iload_n 2, 1) := by decide +kernel
theorem d_X_lose_22 : decode prog_1_method_11_code 22 = .ok (.aload 4, 2) := by decide +kernel
theorem d_X_lose_24 : decode prog_1_method_11_code 24 = .ok (.invokevirtual 119, 3) := by decide +kernel
theorem d_X_lose_27 : decode prog_1_method_11_code 27 = .ok (.if_icmp .ge 13, 3) := by decide +kernel
theorem d_X_lose_30 : decode prog_1_method_11_code 30 = .ok (.new 56, 3) := by decide +kernel
theorem d_X_lose_33 : decode prog_1_method_11_code 33 = .ok (.dup, 1) := by decide +kernel
theorem d_X_lose_34 : decode prog_1_method_11_code 34 = .ok (.ldc 122, 2) := by decide +kernel
theorem d_X_lose_36 : decode prog_1_method_11_code 36 = .ok (.invokespecial 60, 3) := by decide +kernel
theorem d_X_lose_39 : decode prog_1_method_11_code 39 = .ok (.athrow, 1) := by decide +kernel
theorem d_X_lose_40 : decode prog_1_method_11_code 40 = .ok (.aload 4, 2) := by decide +kernel
theorem d_X_lose_42 : decode prog_1_method_11_code 42 = .ok (.iload_n 2, 1) := by decide +kernel
theorem d_X_lose_43 : decode prog_1_method_11_code 43 = .ok (.iload_n 3, 1) := by decide +kernel
theorem d_X_lose_44 : decode prog_1_method_11_code 44 = .ok (.invokevirtual 124, 3) := by decide +kernel
theorem d_X_lose_47 : decode prog_1_method_11_code 47 = .ok (.ireturn, 1) := by decide +kernel
theorem d_X_bit_0 : decode prog_1_method_12_code 0 = .ok (.aload_n 0, 1) := by decide +kernel
theorem d_X_bit_1 : decode prog_1_method_12_code 1 = .ok (.iload_n 1, 1) := by decide +kernel
theorem d_X_bit_2 : decode prog_1_method_12_code 2 = .ok (.invokevirtual 96, 3) := by decide +kernel
theorem d_X_bit_5 : decode prog_1_method_12_code 5 = .ok (.iload_n 2, 1) := by decide +kernel
theorem d_X_bit_6 : decode prog_1_method_12_code 6 = .ok (.invokevirtual 114, 3) := by decide +kernel
theorem d_X_bit_9 : decode prog_1_method_12_code 9 = .ok (.ireturn, 1) := by decide +kernel
theorem d_X_count_0 : decode prog_1_method_13_code 0 = .ok (.aload_n 0, 1) := by decide +kernel
theorem d_X_count_1 : decode prog_1_method_13_code 1 = .ok (.iload_n 1, 1) := by decide +kernel
theorem d_X_count_2 : decode prog_1_method_13_code 2 = .ok (.invokevirtual 96, 3) := by decide +kernel
theorem d_X_count_5 : decode prog_1_method_13_code 5 = .ok (.astore_n 3, 1) := by decide +kernel
theorem d_X_count_6 : decode prog_1_method_13_code 6 = .ok (.iload_n 1, 1) := by decide +kernel
theorem d_X_count_7 : decode prog_1_method_13_code 7 = .ok (.ifCond .ne 10, 3) := by decide +kernel
theorem d_X_count_10 : decode prog_1_method_13_code 10 = .ok (.aload_n 0, 1) := by decide +kernel
theorem d_X_count_11 : decode prog_1_method_13_code 11 = .ok (.getfield 24, 3) := by decide +kernel
theorem d_X_count_14 : decode prog_1_method_13_code 14 = .ok (.goto 7, 3) := by decide +kernel
theorem d_X_count_17 : decode prog_1_method_13_code 17 = .ok (.aload_n 0, 1) := by decide +kernel
theorem d_X_count_18 : decode prog_1_method_13_code 18 = .ok (.getfield 31, 3) := by decide +kernel
theorem d_X_count_21 : decode prog_1_method_13_code 21 = .ok (.astore 4, 2) := by decide +kernel
theorem d_X_count_23 : decode prog_1_method_13_code 23 = .ok (.iload_n 2, 1) := by decide +kernel
theorem d_X_count_24 : decode prog_1_method_13_code 24 = .ok (.tableswitch 110 0 8 #[52, 57, 62, 76, 82, 88, 94, 100, 105], 52) := by decide +kernel
theorem d_X_count_76 : decode prog_1_method_13_code 76 = .ok (.aload_n 3, 1) := by decide +kernel
theorem d_X_count_77 : decode prog_1_method_13_code 77 = .ok (.invokevirtual 88, 3) := by decide +kernel
theorem d_X_count_80 : decode prog_1_method_13_code 80 = .ok (.ireturn, 1) := by decide +kernel
theorem d_X_count_81 : decode prog_1_method_13_code 81 = .ok (.aload_n 3, 1) := by decide +kernel
theorem d_X_count_82 : decode prog_1_method_13_code 82 = .ok (.invokevirtual 119, 3) := by decide +kernel
theorem d_X_count_85 : decode prog_1_method_13_code 85 = .ok (.ireturn, 1) := by decide +kernel
theorem d_X_count_86 : decode prog_1_method_13_code 86 = .ok (.aload 4, 2) := by decide +kernel
theorem d_X_count_88 : decode prog_1_method_13_code 88 = .ok (.invokevirtual 128, 3) := by decide +kernel
theorem d_X_count_91 : decode prog_1_method_13_code 91 = .ok (.ifCond .eq 7, 3) := by decide +kernel
theorem d_X_count_94 : decode prog_1_method_13_code 94 = .ok (.iconst 1, 1) := by decide +kernel
theorem d_X_count_95 : decode prog_1_method_13_code 95 = .ok (.goto 4, 3) := by decide +kernel
theorem d_X_count_98 : decode prog_1_method_13_code 98 = .ok (.iconst 0, 1) := by decide +kernel
theorem d_X_count_99 : decode prog_1_method_13_code 99 = .ok (.ireturn, 1) := by decide +kernel
theorem d_X_count_100 : decode prog_1_method_13_code 100 = .ok (.aload 4, 2) := by decide +kernel
theorem d_X_count_102 : decode prog_1_method_13_code 102 = .ok (.invokevirtual 134, 3) := by decide +kernel
theorem d_X_count_105 : decode prog_1_method_13_code 105 = .ok (.ireturn, 1) := by decide +kernel
theorem d_X_count_106 : decode prog_1_method_13_code 106 = .ok (.aload 4, 2) := by decide +kernel
theorem d_X_count_108 : decode prog_1_method_13_code 108 = .ok (.invokevirtual 137, 3) := by decide +kernel
theorem d_X_count_111 : decode prog_1_method_13_code 111 = .ok (.ireturn, 1) := by decide +kernel
theorem d_X_count_112 : decode prog_1_method_13_code 112 = .ok (.aload 4, 2) := by decide +kernel
theorem d_X_count_114 : decode prog_1_method_13_code 114 = .ok (.invokevirtual 140, 3) := by decide +kernel
theorem d_X_count_117 : decode prog_1_method_13_code 117 = .ok (.ireturn, 1) := by decide +kernel
theorem d_X_count_118 : decode prog_1_method_13_code 118 = .ok (.aload 4, 2) := by decide +kernel
theorem d_X_count_120 : decode prog_1_method_13_code 120 = .ok (.invokevirtual 143, 3) := by decide +kernel
theorem d_X_count_123 : decode prog_1_method_13_code 123 = .ok (.ireturn, 1) := by decide +kernel
theorem d_X_count_124 : decode prog_1_method_13_code 124 = .ok (.aload_n 3, 1) := by decide +kernel
theorem d_X_count_125 : decode prog_1_method_13_code 125 = .ok (.invokevirtual 146, 3) := by decide +kernel
theorem d_X_count_128 : decode prog_1_method_13_code 128 = .ok (.ireturn, 1) := by decide +kernel
theorem d_X_count_129 : decode prog_1_method_13_code 129 = .ok (.aload_n 3, 1) := by decide +kernel
theorem d_X_count_130 : decode prog_1_method_13_code 130 = .ok (.invokevirtual 149, 3) := by decide +kernel
theorem d_X_count_133 : decode prog_1_method_13_code 133 = .ok (.ireturn, 1) := by decide +kernel
theorem d_X_count_134 : decode prog_1_method_13_code 134 = .ok (.new 56, 3) := by decide +kernel
theorem d_X_count_137 : decode prog_1_method_13_code 137 = .ok (.dup, 1) := by decide +kernel
theorem d_X_count_138 : decode prog_1_method_13_code 138 = .ok (.ldc 152, 2) := by decide +kernel
theorem d_X_count_140 : decode prog_1_method_13_code 140 = .ok (.invokespecial 60, 3) := by decide +kernel
theorem d_X_count_143 : decode prog_1_method_13_code 143 = .ok (.athrow, 1) := by decide +kernel
end
section
theorem d_M_init_0 : decode prog_10_method_1_code 0 = .ok (.aload_n 0, 1) := by decide +kernel
theorem d_M_init_1 : decode prog_10_method_1_code 1 = .ok (.invokespecial 1, 3) := by decide +kernel
theorem d_M_init_4 : decode prog_10_method_1_code 4 = .ok (.aload_n 0, 1) := by decide +kernel
theorem d_M_init_5 : decode prog_10_method_1_code 5 = .ok (.bipush 32, 2) := by decide +kernel
theorem d_M_init_7 : decode prog_10_method_1_code 7 = .ok (.newarray .int, 2) := by decide +kernel
theorem d_M_init_9 : decode prog_10_method_1_code 9 = .ok (.dup, 1) := by decide +kernel
theorem d_M_init_10 : decode prog_10_method_1_code 10 = .ok (.iconst 0, 1) := by decide +kernel
theorem d_M_init_11 : decode prog_10_method_1_code 11 = .ok (.bipush 39, 2) := by decide +kernel
theorem d_M_init_13 : decode prog_10_method_1_code 13 = .ok (.iastore, 1) := by decide +kernel
theorem d_M_init_14 : decode prog_10_method_1_code 14 = .ok (.dup, 1) := by decide +kernel
theorem d_M_init_15 : decode prog_10_method_1_code 15 = .ok (.iconst 1, 1) := by decide +kernel
theorem d_M_init_16 : decode prog_10_method_1_code 16 = .ok (.bipush 29, 2) := by decide +kernel
theorem d_M_init_18 : decode prog_10_method_1_code 18 = .ok (.iastore, 1) := by decide +kernel
theorem d_M_init_19 : decode prog_10_method_1_code 19 = .ok (.dup, 1) := by decide +kernel
theorem d_M_init_20 : decode prog_10_method_1_code 20 = .ok (.iconst 2, 1) := by decide +kernel
theorem d_M_init_21 : decode prog_10_method_1_code 21 = .ok (.bipush 45, 2) := by decide +kernel
theorem d_M_init_23 : decode prog_10_method_1_code 23 = .ok (.iastore, 1) := by decide +kernel
theorem d_M_init_24 : decode prog_10_method_1_code 24 = .ok (.dup, 1) := by decide +kernel
theorem d_M_init_25 : decode prog_10_method_1_code 25 = .ok (.iconst 3, 1) := by decide +kernel
theorem d_M_init_26 : decode prog_10_method_1_code 26 = .ok (.bipush 49, 2) := by decide +kernel
theorem d_M_init_28 : decode prog_10_method_1_code 28 = .ok (.iastore, 1) := by decide +kernel
theorem d_M_init_29 : decode prog_10_method_1_code 29 = .ok (.dup, 1) := by decide +kernel
theorem d_M_init_30 : decode prog_10_method_1_code 30 = .ok (.iconst 4, 1) := by decide +kernel
theorem d_M_init_31 : decode prog_10_method_1_code 31 = .ok (.bipush 53, 2) := by decide +kernel
theorem d_M_init_33 : decode prog_10_method_1_code 33 = .ok (.iastore, 1) := by decide +kernel
theorem d_M_init_34 : decode prog_10_method_1_code 34 = .ok (.dup, 1) := by decide +kernel
theorem d_M_init_35 : decode prog_10_method_1_code 35 = .ok (.iconst 5, 1) := by decide +kernel
theorem d_M_init_36 : decode prog_10_method_1_code 36 = .ok (.bipush 41, 2) := by decide +kernel
theorem d_M_init_38 : decode prog_10_method_1_code 38 = .ok (.iastore, 1) := by decide +kernel
theorem d_M_init_39 : decode prog_10_method_1_code 39 = .ok (.dup, 1) := by decide +kernel
theorem d_M_init_40 : decode prog_10_method_1_code 40 = .ok (.bipush 6, 2) := by decide +kernel
theorem d_M_init_42 : decode prog_10_method_1_code 42 = .ok (.bipush 25, 2) := by decide +kernel
theorem d_M_init_44 : decode prog_10_method_1_code 44 = .ok (.iastore, 1) := by decide +kernel
theorem d_M_init_45 : decode prog_10_method_1_code 45 = .ok (.dup, 1) := by decide +kernel
theorem d_M_init_46 : decode prog_10_method_1_code 46 = .ok (.bipush 7, 2) := by decide +kernel
theorem d_M_init_48 : decode prog_10_method_1_code 48 = .ok (.bipush 56, 2) := by decide +kernel
theorem d_M_init_50 : decode prog_10_method_1_code 50 = .ok (.iastore, 1) := by decide +kernel
theorem d_M_init_51 : decode prog_10_method_1_code 51 = .ok (.dup, 1) := by decide +kernel
theorem d_M_init_52 : decode prog_10_method_1_code 52 = .ok (.bipush 8, 2) := by decide +kernel
theorem d_M_init_54 : decode prog_10_method_1_code 54 = .ok (.bipush 57, 2) := by decide +kernel
theorem d_M_init_56 : decode prog_10_method_1_code 56 = .ok (.iastore, 1) := by decide +kernel
theorem d_M_init_57 : decode prog_10_method_1_code 57 = .ok (.dup, 1) := by decide +kernel
theorem d_M_init_58 : decode prog_10_method_1_code 58 = .ok (.bipush 9, 2) := by decide +kernel
theorem d_M_init_60 : decode prog_10_method_1_code 60 = .ok (.bipush 37, 2) := by decide +kernel
theorem d_M_init_62 : decode prog_10_method_1_code 62 = .ok (.iastore, 1) := by decide +kernel
theorem d_M_init_63 : decode prog_10_method_1_code 63 = .ok (.dup, 1) := by decide +kernel
theorem d_M_init_64 : decode prog_10_method_1_code 64 = .ok (.bipush 10, 2) := by decide +kernel
theorem d_M_init_66 : decode prog_10_method_1_code 66 = .ok (.bipush 21, 2) := by decide +kernel
theorem d_M_init_68 : decode prog_10_method_1_code 68 = .ok (.iastore, 1) := by decide +kernel
theorem d_M_init_69 : decode prog_10_method_1_code 69 = .ok (.dup, 1) := by decide +kernel
theorem d_M_init_70 : decode prog_10_method_1_code 70 = .ok (.bipush 11, 2) := by decide +kernel
theorem d_M_init_72 : decode prog_10_method_1_code 72 = .ok (.bipush 52, 2) := by decide +kernel
theorem d_M_init_74 : decode prog_10_method_1_code 74 = .ok (.iastore, 1) := by decide +kernel
theorem d_M_init_75 : decode prog_10_method_1_code 75 = .ok (.dup, 1) := by decide +kernel
theorem d_M_init_76 : decode prog_10_method_1_code 76 = .ok (.bipush 12, 2) := by decide +kernel
theorem d_M_init_78 : decode prog_10_method_1_code 78 = .ok (.bipush 13, 2) := by decide +kernel
theorem d_M_init_80 : decode prog_10_method_1_code 80 = .ok (.iastore, 1) := by decide +kernel
theorem d_M_init_81 : decode prog_10_method_1_code 81 = .ok (.dup, 1) := by decide +kernel
theorem d_M_init_82 : decode prog_10_method_1_code 82 = .ok (.bipush 13, 2) := by decide +kernel
theorem d_M_init_84 : decode prog_10_method_1_code 84 = .ok (.bipush 44, 2) := by decide +kernel
theorem d_M_init_86 : decode prog_10_method_1_code 86 = .ok (.iastore, 1) := by decide +kernel
theorem d_M_init_87 : decode prog_10_method_1_code 87 = .ok (.dup, 1) := by decide +kernel
theorem d_M_init_88 : decode prog_10_method_1_code 88 = .ok (.bipush 14, 2) := by decide +kernel
theorem d_M_init_90 : decode prog_10_method_1_code 90 = .ok (.bipush 28, 2) := by decide +kernel
theorem d_M_init_92 : decode prog_10_method_1_code 92 = .ok (.iastore, 1) := by decide +kernel
theorem d_M_init_93 : decode prog_10_method_1_code 93 = .ok (.dup, 1) := by decide +kernel
theorem d_M_init_94 : decode prog_10_method_1_code 94 = .ok (.bipush 15, 2) := by decide +kernel
theorem d_M_init_96 : decode prog_10_method_1_code 96 = .ok (.bipush 23, 2) := by decide +kernel
theorem d_M_init_98 : decode prog_10_method_1_code 98 = .ok (.iastore, 1) := by decide +kernel
theorem d_M_init_99 : decode prog_10_method_1_code 99 = .ok (.dup, 1) := by decide +kernel
theorem d_M_init_100 : decode prog_10_method_1_code 100 = .ok (.bipush 16, 2) := by decide +kernel
theorem d_M_init_102 : decode prog_10_method_1_code 102 = .ok (.bipush 27, 2) := by decide +kernel
theorem d_M_init_104 : decode prog_10_method_1_code 104 = .ok (.iastore, 1) := by decide +kernel
theorem d_M_init_105 : decode prog_10_method_1_code 105 = .ok (.dup, 1) := by decide +kernel
theorem d_M_init_106 : decode prog_10_method_1_code 106 = .ok (.bipush 17, 2) := by decide +kernel
theorem d_M_init_108 : decode prog_10_method_1_code 108 = .ok (.bipush 35, 2) := by decide +kernel
theorem d_M_init_110 : decode prog_10_method_1_code 110 = .ok (.iastore, 1) := by decide +kernel
theorem d_M_init_111 : decode prog_10_method_1_code 111 = .ok (.dup, 1) := by decide +kernel
theorem d_M_init_112 : decode prog_10_method_1_code 112 = .ok (.bipush 18, 2) := by decide +kernel
theorem d_M_init_114 : decode prog_10_method_1_code 114 = .ok (.bipush 19, 2) := by decide +kernel
theorem d_M_init_116 : decode prog_10_method_1_code 116 = .ok (.iastore, 1) := by decide +kernel
theorem d_M_init_117 : decode prog_10_method_1_code 117 = .ok (.dup, 1) := by decide +kernel
theorem d_M_init_118 : decode prog_10_method_1_code 118 = .ok (.bipush 19, 2) := by decide +kernel
theorem d_M_init_120 : decode prog_10_method_1_code 120 = .ok (.bipush 50, 2) := by decide +kernel
theorem d_M_init_122 : decode prog_10_method_1_code 122 = .ok (.iastore, 1) := by decide +kernel
theorem d_M_init_123 : decode prog_10_method_1_code 123 = .ok (.dup, 1) := by decide +kernel
theorem d_M_init_124 : decode prog_10_method_1_code 124 = .ok (.bipush 20, 2) := by decide +kernel
theorem d_M_init_126 : decode prog_10_method_1_code 126 = .ok (.bipush 11, 2) := by decide +kernel
theorem d_M_init_128 : decode prog_10_method_1_code 128 = .ok (.iastore, 1) := by decide +kernel
theorem d_M_init_129 : decode prog_10_method_1_code 129 = .ok (.dup, 1) := by decide +kernel
theorem d_M_init_130 : decode prog_10_method_1_code 130 = .ok (.bipush 21, 2) := by decide +kernel
theorem d_M_init_132 : decode prog_10_method_1_code 132 = .ok (.bipush 42, 2) := by decide +kernel
theorem d_M_init_134 : decode prog_10_method_1_code 134 = .ok (.iastore, 1) := by decide +kernel
theorem d_M_init_135 : decode prog_10_method_1_code 135 = .ok (.dup, 1) := by decide +kernel
theorem d_M_init_136 : decode prog_10_method_1_code 136 = .ok (.bipush 22, 2) := by decide +kernel
theorem d_M_init_138 : decode prog_10_method_1_code 138 = .ok (.bipush 26, 2) := by decide +kernel
theorem d_M_init_140 : decode prog_10_method_1_code 140 = .ok (.iastore, 1) := by decide +kernel
theorem d_M_init_141 : decode prog_10_method_1_code 141 = .ok (.dup, 1) := by decide +kernel
theorem d_M_init_142 : decode prog_10_method_1_code 142 = .ok (.bipush 23, 2) := by decide +kernel
theorem d_M_init_144 : decode prog_10_method_1_code 144 = .ok (.bipush 58, 2) := by decide +kernel
theorem d_M_init_146 : decode prog_10_method_1_code 146 = .ok (.iastore, 1) := by decide +kernel
theorem d_M_init_147 : decode prog_10_method_1_code 147 = .ok (.dup, 1) := by decide +kernel
theorem d_M_init_148 : decode prog_10_method_1_code 148 = .ok (.bipush 24, 2) := by decide +kernel
theorem d_M_init_150 : decode prog_10_method_1_code 150 = .ok (.bipush 51, 2) := by decide +kernel
theorem d_M_init_152 : decode prog_10_method_1_code 152 = .ok (.iastore, 1) := by decide +kernel
theorem d_M_init_153 : decode prog_10_method_1_code 153 = .ok (.dup, 1) := by decide +kernel
theorem d_M_init_154 : decode prog_10_method_1_code 154 = .ok (.bipush 25, 2) := by decide +kernel
theorem d_M_init_156 : decode prog_10_method_1_code 156 = .ok (.bipush 38, 2) := by decide +kernel
theorem d_M_init_158 : decode prog_10_method_1_code 158 = .ok (.iastore, 1) := by decide +kernel
theorem d_M_init_159 : decode prog_10_method_1_code 159 = .ok (.dup, 1) := by decide +kernel
theorem d_M_init_160 : decode prog_10_method_1_code 160 = .ok (.bipush 26, 2) := by decide +kernel
theorem d_M_init_162 : decode prog_10_method_1_code 162 = .ok (.bipush 22, 2) := by decide +kernel
theorem d_M_init_164 : decode prog_10_method_1_code 164 = .ok (.iastore, 1) := by decide +kernel
theorem d_M_init_165 : decode prog_10_method_1_code 165 = .ok (.dup, 1) := by decide +kernel
theorem d_M_init_166 : decode prog_10_method_1_code 166 = .ok (.bipush 27, 2) := by decide +kernel
theorem d_M_init_168 : decode prog_10_method_1_code 168 = .ok (.bipush 54, 2) := by decide +kernel
theorem d_M_init_170 : decode prog_10_method_1_code 170 = .ok (.iastore, 1) := by decide +kernel
theorem d_M_init_171 : decode prog_10_method_1_code 171 = .ok (.dup, 1) := by decide +kernel
theorem d_M_init_172 : decode prog_10_method_1_code 172 = .ok (.bipush 28, 2) := by decide +kernel
theorem d_M_init_174 : decode prog_10_method_1_code 174 = .ok (.bipush 14, 2) := by decide +kernel
theorem d_M_init_176 : decode prog_10_method_1_code 176 = .ok (.iastore, 1) := by decide +kernel
theorem d_M_init_177 : decode prog_10_method_1_code 177 = .ok (.dup, 1) := by decide +kernel
theorem d_M_init_178 : decode prog_10_method_1_code 178 = .ok (.bipush 29, 2) := by decide +kernel
theorem d_M_init_180 : decode prog_10_method_1_code 180 = .ok (.bipush 46, 2) := by decide +kernel
theorem d_M_init_182 : decode prog_10_method_1_code 182 = .ok (.iastore, 1) := by decide +kernel
theorem d_M_init_183 : decode prog_10_method_1_code 183 = .ok (.dup, 1) := by decide +kernel
theorem d_M_init_184 : decode prog_10_method_1_code 184 = .ok (.bipush 30, 2) := by decide +kernel
theorem d_M_init_186 : decode prog_10_method_1_code 186 = .ok (.bipush 30, 2) := by decide +kernel
theorem d_M_init_188 : decode prog_10_method_1_code 188 = .ok (.iastore, 1) := by decide +kernel
theorem d_M_init_189 : decode prog_10_method_1_code 189 = .ok (.dup, 1) := by decide +kernel
theorem d_M_init_190 : decode prog_10_method_1_code 190 = .ok (.bipush 31, 2) := by decide +kernel
theorem d_M_init_192 : decode prog_10_method_1_code 192 = .ok (.bipush 43, 2) := by decide +kernel
theorem d_M_init_194 : decode prog_10_method_1_code 194 = .ok (.iastore, 1) := by decide +kernel
theorem d_M_init_195 : decode prog_10_method_1_code 195 = .ok (.putfield 7, 3) := by decide +kernel
theorem d_M_init_198 : decode prog_10_method_1_code 198 = .ok (.aload_n 0, 1) := by decide +kernel
theorem d_M_init_199 : decode prog_10_method_1_code 199 = .ok (.bipush 8, 2) := by decide +kernel
theorem d_M_init_201 : decode prog_10_method_1_code 201 = .ok (.newarray .int, 2) := by decide +kernel
theorem d_M_init_203 : decode prog_10_method_1_code 203 = .ok (.dup, 1) := by decide +kernel
theorem d_M_init_204 : decode prog_10_method_1_code 204 = .ok (.iconst 0, 1) := by decide +kernel
theorem d_M_init_205 : decode prog_10_method_1_code 205 = .ok (.bipush 11, 2) := by decide +kernel
theorem d_M_init_207 : decode prog_10_method_1_code 207 = .ok (.iastore, 1) := by decide +kernel
theorem d_M_init_208 : decode prog_10_method_1_code 208 = .ok (.dup, 1) := by decide +kernel
theorem d_M_init_209 : decode prog_10_method_1_code 209 = .ok (.iconst 1, 1) := by decide +kernel
theorem d_M_init_210 : decode prog_10_method_1_code 210 = .ok (.bipush 9, 2) := by decide +kernel
theorem d_M_init_212 : decode prog_10_method_1_code 212 = .ok (.iastore, 1) := by decide +kernel
theorem d_M_init_213 : decode prog_10_method_1_code 213 = .ok (.dup, 1) := by decide +kernel
theorem d_M_init_214 : decode prog_10_method_1_code 214 = .ok (.iconst 2, 1) := by decide +kernel
theorem d_M_init_215 : decode prog_10_method_1_code 215 = .ok (.iconst 5, 1) := by decide +kernel
theorem d_M_init_216 : decode prog_10_method_1_code 216 = .ok (.iastore, 1) := by decide +kernel
theorem d_M_init_217 : decode prog_10_method_1_code 217 = .ok (.dup, 1) := by decide +kernel
theorem d_M_init_218 : decode prog_10_method_1_code 218 = .ok (.iconst 3, 1) := by decide +kernel
theorem d_M_init_219 : decode prog_10_method_1_code 219 = .ok (.bipush 12, 2) := by decide +kernel
theorem d_M_init_221 : decode prog_10_method_1_code 221 = .ok (.iastore, 1) := by decide +kernel
theorem d_M_init_222 : decode prog_10_method_1_code 222 = .ok (.dup, 1) := by decide +kernel
theorem d_M_init_223 : decode prog_10_method_1_code 223 = .ok (.iconst 4, 1) := by decide +kernel
theorem d_M_init_224 : decode prog_10_method_1_code 224 = .ok (.bipush 13, 2) := by decide +kernel
theorem d_M_init_226 : decode prog_10_method_1_code 226 = .ok (.iastore, 1) := by decide +kernel
theorem d_M_init_227 : decode prog_10_method_1_code 227 = .ok (.dup, 1) := by decide +kernel
theorem d_M_init_228 : decode prog_10_method_1_code 228 = .ok (.iconst 5, 1) := by decide +kernel
theorem d_M_init_229 : decode prog_10_method_1_code 229 = .ok (.bipush 10, 2) := by decide +kernel
theorem d_M_init_231 : decode prog_10_method_1_code 231 = .ok (.iastore, 1) := by decide +kernel
theorem d_M_init_232 : decode prog_10_method_1_code 232 = .ok (.dup, 1) := by decide +kernel
theorem d_M_init_233 : decode prog_10_method_1_code 233 = .ok (.bipush 6, 2) := by decide +kernel
theorem d_M_init_235 : decode prog_10_method_1_code 235 = .ok (.bipush 6, 2) := by decide +kernel
theorem d_M_init_237 : decode prog_10_method_1_code 237 = .ok (.iastore, 1) := by decide +kernel
theorem d_M_init_238 : decode prog_10_method_1_code 238 = .ok (.dup, 1) := by decide +kernel
theorem d_M_init_239 : decode prog_10_method_1_code 239 = .ok (.bipush 7, 2) := by decide +kernel
theorem d_M_init_241 : decode prog_10_method_1_code 241 = .ok (.bipush 14, 2) := by decide +kernel
theorem d_M_init_243 : decode prog_10_method_1_code 243 = .ok (.iastore, 1) := by decide +kernel
theorem d_M_init_244 : decode prog_10_method_1_code 244 = .ok (.putfield 13, 3) := by decide +kernel
theorem d_M_init_247 : decode prog_10_method_1_code 247 = .ok (.aload_n 0, 1) := by decide +kernel
theorem d_M_init_248 : decode prog_10_method_1_code 248 = .ok (.sipush 1024, 3) := by decide +kernel
theorem d_M_init_251 : decode prog_10_method_1_code 251 = .ok (.newarray .int, 2) := by decide +kernel
theorem d_M_init_253 : decode prog_10_method_1_code 253 = .ok (.putfield 16, 3) := by decide +kernel
theorem d_M_init_256 : decode prog_10_method_1_code 256 = .ok (.aload_n 0, 1) := by decide +kernel
theorem d_M_init_257 : decode prog_10_method_1_code 257 = .ok (.sipush 1024, 3) := by decide +kernel
theorem d_M_init_260 : decode prog_10_method_1_code 260 = .ok (.newarray .int, 2) := by decide +kernel
theorem d_M_init_262 : decode prog_10_method_1_code 262 = .ok (.putfield 19, 3) := by decide +kernel
theorem d_M_init_265 : decode prog_10_method_1_code 265 = .ok (.aload_n 0, 1) := by decide +kernel
theorem d_M_init_266 : decode prog_10_method_1_code 266 = .ok (.sipush 5280, 3) := by decide +kernel
theorem d_M_init_269 : decode prog_10_method_1_code 269 = .ok (.newarray .int, 2) := by decide +kernel
theorem d_M_init_271 : decode prog_10_method_1_code 271 = .ok (.putfield 22, 3) := by decide +kernel
theorem d_M_init_274 : decode prog_10_method_1_code 274 = .ok (.aload_n 0, 1) := by decide +kernel
theorem d_M_init_275 : decode prog_10_method_1_code 275 = .ok (.iconst 2, 1) := by decide +kernel
theorem d_M_init_276 : decode prog_10_method_1_code 276 = .ok (.newarray .int, 2) := by decide +kernel
theorem d_M_init_278 : decode prog_10_method_1_code 278 = .ok (.putfield 25, 3) := by decide +kernel
theorem d_M_init_281 : decode prog_10_method_1_code 281 = .ok (.aload_n 0, 1) := by decide +kernel
theorem d_M_init_282 : decode prog_10_method_1_code 282 = .ok (.iconst 2, 1) := by decide +kernel
theorem d_M_init_283 : decode prog_10_method_1_code 283 = .ok (.newarray .int, 2) := by decide +kernel
theorem d_M_init_285 : decode prog_10_method_1_code 285 = .ok (.putfield 28, 3) := by decide +kernel
theorem d_M_init_288 : decode prog_10_method_1_code 288 = .ok (.aload_n 0, 1) := by decide +kernel
theorem d_M_init_289 : decode prog_10_method_1_code 289 = .ok (.iconst 2, 1) := by decide +kernel
theorem d_M_init_290 : decode prog_10_method_1_code 290 = .ok (.newarray .boolean, 2) := by decide +kernel
theorem d_M_init_292 : decode prog_10_method_1_code 292 = .ok (.putfield 31, 3) := by decide +kernel
theorem d_M_init_295 : decode prog_10_method_1_code 295 = .ok (.aload_n 0, 1) := by decide +kernel
theorem d_M_init_296 : decode prog_10_method_1_code 296 = .ok (.iconst 2, 1) := by decide +kernel
theorem d_M_init_297 : decode prog_10_method_1_code 297 = .ok (.newarray .int, 2) := by decide +kernel
theorem d_M_init_299 : decode prog_10_method_1_code 299 = .ok (.putfield 35, 3) := by decide +kernel
theorem d_M_init_302 : decode prog_10_method_1_code 302 = .ok (.aload_n 0, 1) := by decide +kernel
theorem d_M_init_303 : decode prog_10_method_1_code 303 = .ok (.iconst 2, 1) := by decide +kernel
theorem d_M_init_304 : decode prog_10_method_1_code 304 = .ok (.newarray .int, 2) := by decide +kernel
theorem d_M_init_306 : decode prog_10_method_1_code 306 = .ok (.putfield 38, 3) := by decide +kernel
theorem d_M_init_309 : decode prog_10_method_1_code 309 = .ok (.aload_n 0, 1) := by decide +kernel
theorem d_M_init_310 : decode prog_10_method_1_code 310 = .ok (.iconst 2, 1) := by decide +kernel
theorem d_M_init_311 : decode prog_10_method_1_code 311 = .ok (.newarray .int, 2) := by decide +kernel
theorem d_M_init_313 : decode prog_10_method_1_code 313 = .ok (.putfield 41, 3) := by decide +kernel
theorem d_M_init_316 : decode prog_10_method_1_code 316 = .ok (.aload_n 0, 1) := by decide +kernel
theorem d_M_init_317 : decode prog_10_method_1_code 317 = .ok (.bipush 58, 2) := by decide +kernel
theorem d_M_init_319 : decode prog_10_method_1_code 319 = .ok (.newarray .int, 2) := by decide +kernel
theorem d_M_init_321 : decode prog_10_method_1_code 321 = .ok (.putfield 44, 3) := by decide +kernel
theorem d_M_init_324 : decode prog_10_method_1_code 324 = .ok (.aload_n 0, 1) := by decide +kernel
theorem d_M_init_325 : decode prog_10_method_1_code 325 = .ok (.bipush 58, 2) := by decide +kernel
theorem d_M_init_327 : decode prog_10_method_1_code 327 = .ok (.newarray .int, 2) := by decide +kernel
theorem d_M_init_329 : decode prog_10_method_1_code 329 = .ok (.putfield 47, 3) := by decide +kernel
theorem d_M_init_332 : decode prog_10_method_1_code 332 = .ok (.iconst 0, 1) := by decide +kernel
theorem d_M_init_333 : decode prog_10_method_1_code 333 = .ok (.istore_n 1, 1) := by decide +kernel
theorem d_M_init_334 : decode prog_10_method_1_code 334 = .ok (.iload_n 1, 1) := by decide +kernel
theorem d_M_init_335 : decode prog_10_method_1_code 335 = .ok (.sipush 1024, 3) := by decide +kernel
theorem d_M_init_338 : decode prog_10_method_1_code 338 = .ok (.if_icmp .ge 16, 3) := by decide +kernel
theorem d_M_init_341 : decode prog_10_method_1_code 341 = .ok (.aload_n 0, 1) := by decide +kernel
theorem d_M_init_342 : decode prog_10_method_1_code 342 = .ok (.getfield 19, 3) := by decide +kernel
theorem d_M_init_345 : decode prog_10_method_1_code 345 = .ok (.iload_n 1, 1) := by decide +kernel
theorem d_M_init_346 : decode prog_10_method_1_code 346 = .ok (.iconst (-1), 1) := by decide +kernel
theorem d_M_init_347 : decode prog_10_method_1_code 347 = .ok (.iastore, 1) := by decide +kernel
theorem d_M_init_348 : decode prog_10_method_1_code 348 = .ok (.iinc 1 1, 3) := by decide +kernel
theorem d_M_init_351 : decode prog_10_method_1_code 351 = .ok (.goto (-17), 3) := by decide +kernel
theorem d_M_init_354 : decode prog_10_method_1_code 354 = .ok (.iconst 0, 1) := by decide +kernel
theorem d_M_init_355 : decode prog_10_method_1_code 355 = .ok (.istore_n 1, 1) := by decide +kernel
theorem d_M_init_356 : decode prog_10_method_1_code 356 = .ok (.iload_n 1, 1) := by decide +kernel
theorem d_M_init_357 : decode prog_10_method_1_code 357 = .ok (.sipush 512, 3) := by decide +kernel
theorem d_M_init_360 : decode prog_10_method_1_code 360 = .ok (.if_icmp .ge 81, 3) := by decide +kernel
theorem d_M_init_363 : decode prog_10_method_1_code 363 = .ok (.iconst 0, 1) := by decide +kernel
theorem d_M_init_364 : decode prog_10_method_1_code 364 = .ok (.istore_n 2, 1) := by decide +kernel
theorem d_M_init_365 : decode prog_10_method_1_code 365 = .ok (.iload_n 2, 1) := by decide +kernel
theorem d_M_init_366 : decode prog_10_method_1_code 366 = .ok (.iconst 2, 1) := by decide +kernel
theorem d_M_init_367 : decode prog_10_method_1_code 367 = .ok (.if_icmp .ge 68, 3) := by decide +kernel
theorem d_M_init_370 : decode prog_10_method_1_code 370 = .ok (.aload_n 0, 1) := by decide +kernel
theorem d_M_init_371 : decode prog_10_method_1_code 371 = .ok (.getfield 16, 3) := by decide +kernel
theorem d_M_init_374 : decode prog_10_method_1_code 374 = .ok (.iconst 2, 1) := by decide +kernel
theorem d_M_init_375 : decode prog_10_method_1_code 375 = .ok (.iload_n 1, 1) := by decide +kernel
theorem d_M_init_376 : decode prog_10_method_1_code 376 = .ok (.imul, 1) := by decide +kernel
theorem d_M_init_377 : decode prog_10_method_1_code 377 = .ok (.iload_n 2, 1) := by decide +kernel
theorem d_M_init_378 : decode prog_10_method_1_code 378 = .ok (.iadd, 1) := by decide +kernel
theorem d_M_init_379 : decode prog_10_method_1_code 379 = .ok (.iload_n 1, 1) := by decide +kernel
theorem d_M_init_380 : decode prog_10_method_1_code 380 = .ok (.invokestatic 50, 3) := by decide +kernel
theorem d_M_init_383 : decode prog_10_method_1_code 383 = .ok (.ifCond .eq 21, 3) := by decide +kernel
theorem d_M_init_386 : decode prog_10_method_1_code 386 = .ok (.aload_n 0, 1) := by decide +kernel
theorem d_M_init_387 : decode prog_10_method_1_code 387 = .ok (.iload_n 1, 1) := by decide +kernel
theorem d_M_init_388 : decode prog_10_method_1_code 388 = .ok (.iload_n 2, 1) := by decide +kernel
theorem d_M_init_389 : decode prog_10_method_1_code 389 = .ok (.iconst 1, 1) := by decide +kernel
theorem d_M_init_390 : decode prog_10_method_1_code 390 = .ok (.if_icmp .ne 7, 3) := by decide +kernel
theorem d_M_init_393 : decode prog_10_method_1_code 393 = .ok (.iconst 1, 1) := by decide +kernel
theorem d_M_init_394 : decode prog_10_method_1_code 394 = .ok (.goto 4, 3) := by decide +kernel
theorem d_M_init_397 : decode prog_10_method_1_code 397 = .ok (.iconst 0, 1) := by decide +kernel
theorem d_M_init_398 : decode prog_10_method_1_code 398 = .ok (.invokevirtual 54, 3) := by decide +kernel
theorem d_M_init_401 : decode prog_10_method_1_code 401 = .ok (.goto 4, 3) := by decide +kernel
theorem d_M_init_404 : decode prog_10_method_1_code 404 = .ok (.iconst (-1), 1) := by decide +kernel
theorem d_M_init_405 : decode prog_10_method_1_code 405 = .ok (.iastore, 1) := by decide +kernel
theorem d_M_init_406 : decode prog_10_method_1_code 406 = .ok (.iload_n 1, 1) := by decide +kernel
theorem d_M_init_407 : decode prog_10_method_1_code 407 = .ok (.invokestatic 50, 3) := by decide +kernel
theorem d_M_init_410 : decode prog_10_method_1_code 410 = .ok (.ifCond .eq 19, 3) := by decide +kernel
theorem d_M_init_413 : decode prog_10_method_1_code 413 = .ok (.aload_n 0, 1) := by decide +kernel
theorem d_M_init_414 : decode prog_10_method_1_code 414 = .ok (.getfield 19, 3) := by decide +kernel
theorem d_M_init_417 : decode prog_10_method_1_code 417 = .ok (.aload_n 0, 1) := by decide +kernel
theorem d_M_init_418 : decode prog_10_method_1_code 418 = .ok (.getfield 16, 3) := by decide +kernel
theorem d_M_init_421 : decode prog_10_method_1_code 421 = .ok (.iconst 2, 1) := by decide +kernel
theorem d_M_init_422 : decode prog_10_method_1_code 422 = .ok (.iload_n 1, 1) := by decide +kernel
theorem d_M_init_423 : decode prog_10_method_1_code 423 = .ok (.imul, 1) := by decide +kernel
theorem d_M_init_424 : decode prog_10_method_1_code 424 = .ok (.iload_n 2, 1) := by decide +kernel
theorem d_M_init_425 : decode prog_10_method_1_code 425 = .ok (.iadd, 1) := by decide +kernel
theorem d_M_init_426 : decode prog_10_method_1_code 426 = .ok (.iaload, 1) := by decide +kernel
theorem d_M_init_427 : decode prog_10_method_1_code 427 = .ok (.iload_n 1, 1) := by decide +kernel
theorem d_M_init_428 : decode prog_10_method_1_code 428 = .ok (.iastore, 1) := by decide +kernel
theorem d_M_init_429 : decode prog_10_method_1_code 429 = .ok (.iinc 2 1, 3) := by decide +kernel
theorem d_M_init_432 : decode prog_10_method_1_code 432 = .ok (.goto (-67), 3) := by decide +kernel
theorem d_M_init_435 : decode prog_10_method_1_code 435 = .ok (.iinc 1 1, 3) := by decide +kernel
theorem d_M_init_438 : decode prog_10_method_1_code 438 = .ok (.goto (-82), 3) := by decide +kernel
theorem d_M_init_441 : decode prog_10_method_1_code 441 = .ok (.aload_n 0, 1) := by decide +kernel
theorem d_M_init_442 : decode prog_10_method_1_code 442 = .ok (.invokevirtual 58, 3) := by decide +kernel
theorem d_M_init_445 : decode prog_10_method_1_code 445 = .ok (.return_, 1) := by decide +kernel
theorem d_M_isSymbol_0 : decode prog_10_method_7_code 0 = .ok (.iload_n 0, 1) := by decide +kernel
theorem d_M_isSymbol_1 : decode prog_10_method_7_code 1 = .ok (.ifCond .lt 10, 3) := by decide +kernel
theorem d_M_isSymbol_4 : decode prog_10_method_7_code 4 = .ok (.iload_n 0, 1) := by decide +kernel
theorem d_M_isSymbol_5 : decode prog_10_method_7_code 5 = .ok (.sipush 512, 3) := by decide +kernel
theorem d_M_isSymbol_8 : decode prog_10_method_7_code 8 = .ok (.if_icmp .lt 5, 3) := by decide +kernel
theorem d_M_isSymbol_11 : decode prog_10_method_7_code 11 = .ok (.iconst 0, 1) := by decide +kernel
theorem d_M_isSymbol_12 : decode prog_10_method_7_code 12 = .ok (.ireturn, 1) := by decide +kernel
theorem d_M_isSymbol_13 : decode prog_10_method_7_code 13 = .ok (.iload_n 0, 1) := by decide +kernel
theorem d_M_isSymbol_14 : decode prog_10_method_7_code 14 = .ok (.bipush 31, 2) := by decide +kernel
theorem d_M_isSymbol_16 : decode prog_10_method_7_code 16 = .ok (.iand, 1) := by decide +kernel
theorem d_M_isSymbol_17 : decode prog_10_method_7_code 17 = .ok (.istore_n 1, 1) := by decide +kernel
theorem d_M_isSymbol_18 : decode prog_10_method_7_code 18 = .ok (.iload_n 0, 1) := by decide +kernel
theorem d_M_isSymbol_19 : decode prog_10_method_7_code 19 = .ok (.iconst 5, 1) := by decide +kernel
theorem d_M_isSymbol_20 : decode prog_10_method_7_code 20 = .ok (.ishr, 1) := by decide +kernel
theorem d_M_isSymbol_21 : decode prog_10_method_7_code 21 = .ok (.bipush 7, 2) := by decide +kernel
theorem d_M_isSymbol_23 : decode prog_10_method_7_code 23 = .ok (.iand, 1) := by decide +kernel
theorem d_M_isSymbol_24 : decode prog_10_method_7_code 24 = .ok (.istore_n 2, 1) := by decide +kernel
theorem d_M_isSymbol_25 : decode prog_10_method_7_code 25 = .ok (.iload_n 0, 1) := by decide +kernel
theorem d_M_isSymbol_26 : decode prog_10_method_7_code 26 = .ok (.sipush 256, 3) := by decide +kernel
theorem d_M_isSymbol_29 : decode prog_10_method_7_code 29 = .ok (.if_icmp .lt 39, 3) := by decide +kernel
theorem d_M_isSymbol_32 : decode prog_10_method_7_code 32 = .ok (.iload_n 1, 1) := by decide +kernel
theorem d_M_isSymbol_33 : decode prog_10_method_7_code 33 = .ok (.bipush 28, 2) := by decide +kernel
theorem d_M_isSymbol_35 : decode prog_10_method_7_code 35 = .ok (.if_icmp .eq 33, 3) := by decide +kernel
theorem d_M_isSymbol_38 : decode prog_10_method_7_code 38 = .ok (.iload_n 2, 1) := by decide +kernel
theorem d_M_isSymbol_39 : decode prog_10_method_7_code 39 = .ok (.bipush 7, 2) := by decide +kernel
theorem d_M_isSymbol_41 : decode prog_10_method_7_code 41 = .ok (.if_icmp .ne 31, 3) := by decide +kernel
theorem d_M_isSymbol_44 : decode prog_10_method_7_code 44 = .ok (.iload_n 1, 1) := by decide +kernel
theorem d_M_isSymbol_45 : decode prog_10_method_7_code 45 = .ok (.bipush 23, 2) := by decide +kernel
theorem d_M_isSymbol_47 : decode prog_10_method_7_code 47 = .ok (.if_icmp .eq 21, 3) := by decide +kernel
theorem d_M_isSymbol_50 : decode prog_10_method_7_code 50 = .ok (.iload_n 1, 1) := by decide +kernel
theorem d_M_isSymbol_51 : decode prog_10_method_7_code 51 = .ok (.bipush 27, 2) := by decide +kernel
theorem d_M_isSymbol_53 : decode prog_10_method_7_code 53 = .ok (.if_icmp .eq 15, 3) := by decide +kernel
theorem d_M_isSymbol_56 : decode prog_10_method_7_code 56 = .ok (.iload_n 1, 1) := by decide +kernel
theorem d_M_isSymbol_57 : decode prog_10_method_7_code 57 = .ok (.bipush 29, 2) := by decide +kernel
theorem d_M_isSymbol_59 : decode prog_10_method_7_code 59 = .ok (.if_icmp .eq 9, 3) := by decide +kernel
theorem d_M_isSymbol_62 : decode prog_10_method_7_code 62 = .ok (.iload_n 1, 1) := by decide +kernel
theorem d_M_isSymbol_63 : decode prog_10_method_7_code 63 = .ok (.bipush 30, 2) := by decide +kernel
theorem d_M_isSymbol_65 : decode prog_10_method_7_code 65 = .ok (.if_icmp .ne 7, 3) := by decide +kernel
theorem d_M_isSymbol_68 : decode prog_10_method_7_code 68 = .ok (.iconst 1, 1) := by decide +kernel
theorem d_M_isSymbol_69 : decode prog_10_method_7_code 69 = .ok (.goto 4, 3) := by decide +kernel
theorem d_M_isSymbol_72 : decode prog_10_method_7_code 72 = .ok (.iconst 0, 1) := by decide +kernel
theorem d_M_isSymbol_73 : decode prog_10_method_7_code 73 = .ok (.ireturn, 1) := by decide +kernel
theorem d_M_make_0 : decode prog_10_method_11_code 0 = .ok (.iload_n 1, 1) := by decide +kernel
theorem d_M_make_1 : decode prog_10_method_11_code 1 = .ok (.sipush 255, 3) := by decide +kernel
theorem d_M_make_4 : decode prog_10_method_11_code 4 = .ok (.if_icmp .le 7, 3) := by decide +kernel
theorem d_M_make_7 : decode prog_10_method_11_code 7 = .ok (.iconst 1, 1) := by decide +kernel
theorem d_M_make_8 : decode prog_10_method_11_code 8 = .ok (.goto 4, 3) := by decide +kernel
theorem d_M_make_11 : decode prog_10_method_11_code 11 = .ok (.iconst 0, 1) := by decide +kernel
theorem d_M_make_12 : decode prog_10_method_11_code 12 = .ok (.istore_n 3, 1) := by decide +kernel
theorem d_M_make_13 : decode prog_10_method_11_code 13 = .ok (.iload_n 1, 1) := by decide +kernel
theorem d_M_make_14 : decode prog_10_method_11_code 14 = .ok (.bipush 31, 2) := by decide +kernel
theorem d_M_make_16 : decode prog_10_method_11_code 16 = .ok (.iand, 1) := by decide +kernel
theorem d_M_make_17 : decode prog_10_method_11_code 17 = .ok (.istore 4, 2) := by decide +kernel
theorem d_M_make_19 : decode prog_10_method_11_code 19 = .ok (.iload_n 1, 1) := by decide +kernel
theorem d_M_make_20 : decode prog_10_method_11_code 20 = .ok (.iconst 5, 1) := by decide +kernel
theorem d_M_make_21 : decode prog_10_method_11_code 21 = .ok (.ishr, 1) := by decide +kernel
theorem d_M_make_22 : decode prog_10_method_11_code 22 = .ok (.bipush 7, 2) := by decide +kernel
theorem d_M_make_24 : decode prog_10_method_11_code 24 = .ok (.iand, 1) := by decide +kernel
theorem d_M_make_25 : decode prog_10_method_11_code 25 = .ok (.istore 5, 2) := by decide +kernel
theorem d_M_make_27 : decode prog_10_method_11_code 27 = .ok (.iload_n 3, 1) := by decide +kernel
theorem d_M_make_28 : decode prog_10_method_11_code 28 = .ok (.ifCond .eq 15, 3) := by decide +kernel
theorem d_M_make_31 : decode prog_10_method_11_code 31 = .ok (.iload 4, 2) := by decide +kernel
theorem d_M_make_33 : decode prog_10_method_11_code 33 = .ok (.bipush 28, 2) := by decide +kernel
theorem d_M_make_35 : decode prog_10_method_11_code 35 = .ok (.if_icmp .ne 8, 3) := by decide +kernel
theorem d_M_make_38 : decode prog_10_method_11_code 38 = .ok (.bipush 15, 2) := by decide +kernel
theorem d_M_make_40 : decode prog_10_method_11_code 40 = .ok (.goto 10, 3) := by decide +kernel
theorem d_M_make_43 : decode prog_10_method_11_code 43 = .ok (.aload_n 0, 1) := by decide +kernel
theorem d_M_make_44 : decode prog_10_method_11_code 44 = .ok (.getfield 7, 3) := by decide +kernel
theorem d_M_make_47 : decode prog_10_method_11_code 47 = .ok (.iload 4, 2) := by decide +kernel
theorem d_M_make_49 : decode prog_10_method_11_code 49 = .ok (.iaload, 1) := by decide +kernel
theorem d_M_make_50 : decode prog_10_method_11_code 50 = .ok (.istore 6, 2) := by decide +kernel
theorem d_M_make_52 : decode prog_10_method_11_code 52 = .ok (.iload_n 2, 1) := by decide +kernel
theorem d_M_make_53 : decode prog_10_method_11_code 53 = .ok (.ifCond .eq 27, 3) := by decide +kernel
theorem d_M_make_56 : decode prog_10_method_11_code 56 = .ok (.iload 6, 2) := by decide +kernel
theorem d_M_make_58 : decode prog_10_method_11_code 58 = .ok (.invokestatic 91, 3) := by decide +kernel
theorem d_M_make_61 : decode prog_10_method_11_code 61 = .ok (.iconst 3, 1) := by decide +kernel
theorem d_M_make_62 : decode prog_10_method_11_code 62 = .ok (.if_icmp .ne 10, 3) := by decide +kernel
theorem d_M_make_65 : decode prog_10_method_11_code 65 = .ok (.iload 6, 2) := by decide +kernel
theorem d_M_make_67 : decode prog_10_method_11_code 67 = .ok (.bipush 56, 2) := by decide +kernel
theorem d_M_make_69 : decode prog_10_method_11_code 69 = .ok (.if_icmp .ne 11, 3) := by decide +kernel
theorem d_M_make_72 : decode prog_10_method_11_code 72 = .ok (.bipush 63, 2) := by decide +kernel
theorem d_M_make_74 : decode prog_10_method_11_code 74 = .ok (.iload 6, 2) := by decide +kernel
theorem d_M_make_76 : decode prog_10_method_11_code 76 = .ok (.isub, 1) := by decide +kernel
theorem d_M_make_77 : decode prog_10_method_11_code 77 = .ok (.goto 5, 3) := by decide +kernel
theorem d_M_make_80 : decode prog_10_method_11_code 80 = .ok (.iload 6, 2) := by decide +kernel
theorem d_M_make_82 : decode prog_10_method_11_code 82 = .ok (.istore 6, 2) := by decide +kernel
theorem d_M_make_84 : decode prog_10_method_11_code 84 = .ok (.iload 6, 2) := by decide +kernel
theorem d_M_make_86 : decode prog_10_method_11_code 86 = .ok (.iload_n 2, 1) := by decide +kernel
theorem d_M_make_87 : decode prog_10_method_11_code 87 = .ok (.invokestatic 95, 3) := by decide +kernel
theorem d_M_make_90 : decode prog_10_method_11_code 90 = .ok (.istore 7, 2) := by decide +kernel
theorem d_M_make_92 : decode prog_10_method_11_code 92 = .ok (.aload_n 0, 1) := by decide +kernel
theorem d_M_make_93 : decode prog_10_method_11_code 93 = .ok (.getfield 13, 3) := by decide +kernel
theorem d_M_make_96 : decode prog_10_method_11_code 96 = .ok (.iload 5, 2) := by decide +kernel
theorem d_M_make_98 : decode prog_10_method_11_code 98 = .ok (.iaload, 1) := by decide +kernel
theorem d_M_make_99 : decode prog_10_method_11_code 99 = .ok (.istore 8, 2) := by decide +kernel
theorem d_M_make_101 : decode prog_10_method_11_code 101 = .ok (.iload_n 3, 1) := by decide +kernel
theorem d_M_make_102 : decode prog_10_method_11_code 102 = .ok (.ifCond .ne 53, 3) := by decide +kernel
theorem d_M_make_105 : decode prog_10_method_11_code 105 = .ok (.iload 7, 2) := by decide +kernel
theorem d_M_make_107 : decode prog_10_method_11_code 107 = .ok (.ifCond .eq 27, 3) := by decide +kernel
theorem d_M_make_110 : decode prog_10_method_11_code 110 = .ok (.iload 4, 2) := by decide +kernel
theorem d_M_make_112 : decode prog_10_method_11_code 112 = .ok (.bipush 11, 2) := by decide +kernel
theorem d_M_make_114 : decode prog_10_method_11_code 114 = .ok (.if_icmp .eq 41, 3) := by decide +kernel
theorem d_M_make_117 : decode prog_10_method_11_code 117 = .ok (.iload 4, 2) := by decide +kernel
theorem d_M_make_119 : decode prog_10_method_11_code 119 = .ok (.bipush 13, 2) := by decide +kernel
theorem d_M_make_121 : decode prog_10_method_11_code 121 = .ok (.if_icmp .eq 34, 3) := by decide +kernel
theorem d_M_make_124 : decode prog_10_method_11_code 124 = .ok (.iload 4, 2) := by decide +kernel
theorem d_M_make_126 : decode prog_10_method_11_code 126 = .ok (.bipush 14, 2) := by decide +kernel
theorem d_M_make_128 : decode prog_10_method_11_code 128 = .ok (.if_icmp .ne 31, 3) := by decide +kernel
theorem d_M_make_131 : decode prog_10_method_11_code 131 = .ok (.goto 24, 3) := by decide +kernel
theorem d_M_make_134 : decode prog_10_method_11_code 134 = .ok (.iload 4, 2) := by decide +kernel
theorem d_M_make_136 : decode prog_10_method_11_code 136 = .ok (.bipush 17, 2) := by decide +kernel
theorem d_M_make_138 : decode prog_10_method_11_code 138 = .ok (.if_icmp .eq 17, 3) := by decide +kernel
theorem d_M_make_141 : decode prog_10_method_11_code 141 = .ok (.iload 4, 2) := by decide +kernel
theorem d_M_make_143 : decode prog_10_method_11_code 143 = .ok (.bipush 18, 2) := by decide +kernel
theorem d_M_make_145 : decode prog_10_method_11_code 145 = .ok (.if_icmp .eq 10, 3) := by decide +kernel
theorem d_M_make_148 : decode prog_10_method_11_code 148 = .ok (.iload 4, 2) := by decide +kernel
theorem d_M_make_150 : decode prog_10_method_11_code 150 = .ok (.bipush 20, 2) := by decide +kernel
theorem d_M_make_152 : decode prog_10_method_11_code 152 = .ok (.if_icmp .ne 7, 3) := by decide +kernel
theorem d_M_make_155 : decode prog_10_method_11_code 155 = .ok (.iconst 1, 1) := by decide +kernel
theorem d_M_make_156 : decode prog_10_method_11_code 156 = .ok (.goto 4, 3) := by decide +kernel
theorem d_M_make_159 : decode prog_10_method_11_code 159 = .ok (.iconst 0, 1) := by decide +kernel
theorem d_M_make_160 : decode prog_10_method_11_code 160 = .ok (.istore 9, 2) := by decide +kernel
theorem d_M_make_162 : decode prog_10_method_11_code 162 = .ok (.iload 5, 2) := by decide +kernel
theorem d_M_make_164 : decode prog_10_method_11_code 164 = .ok (.bipush 7, 2) := by decide +kernel
theorem d_M_make_166 : decode prog_10_method_11_code 166 = .ok (.if_icmp .ne 13, 3) := by decide +kernel
theorem d_M_make_169 : decode prog_10_method_11_code 169 = .ok (.iload 9, 2) := by decide +kernel
theorem d_M_make_171 : decode prog_10_method_11_code 171 = .ok (.ifCond .eq 8, 3) := by decide +kernel
theorem d_M_make_174 : decode prog_10_method_11_code 174 = .ok (.bipush 7, 2) := by decide +kernel
theorem d_M_make_176 : decode prog_10_method_11_code 176 = .ok (.goto 5, 3) := by decide +kernel
theorem d_M_make_179 : decode prog_10_method_11_code 179 = .ok (.iload 8, 2) := by decide +kernel
theorem d_M_make_181 : decode prog_10_method_11_code 181 = .ok (.istore 8, 2) := by decide +kernel
theorem d_M_make_183 : decode prog_10_method_11_code 183 = .ok (.iload 7, 2) := by decide +kernel
theorem d_M_make_185 : decode prog_10_method_11_code 185 = .ok (.ifCond .eq 23, 3) := by decide +kernel
theorem d_M_make_188 : decode prog_10_method_11_code 188 = .ok (.iload 8, 2) := by decide +kernel
theorem d_M_make_190 : decode prog_10_method_11_code 190 = .ok (.invokestatic 91, 3) := by decide +kernel
theorem d_M_make_193 : decode prog_10_method_11_code 193 = .ok (.iconst 2, 1) := by decide +kernel
theorem d_M_make_194 : decode prog_10_method_11_code 194 = .ok (.if_icmp .ne 10, 3) := by decide +kernel
theorem d_M_make_197 : decode prog_10_method_11_code 197 = .ok (.iload 8, 2) := by decide +kernel
theorem d_M_make_199 : decode prog_10_method_11_code 199 = .ok (.bipush 12, 2) := by decide +kernel
theorem d_M_make_201 : decode prog_10_method_11_code 201 = .ok (.if_icmp .ne 7, 3) := by decide +kernel
theorem d_M_make_204 : decode prog_10_method_11_code 204 = .ok (.iconst 1, 1) := by decide +kernel
theorem d_M_make_205 : decode prog_10_method_11_code 205 = .ok (.goto 4, 3) := by decide +kernel
theorem d_M_make_208 : decode prog_10_method_11_code 208 = .ok (.iconst 0, 1) := by decide +kernel
theorem d_M_make_209 : decode prog_10_method_11_code 209 = .ok (.istore 10, 2) := by decide +kernel
theorem d_M_make_211 : decode prog_10_method_11_code 211 = .ok (.iload_n 3, 1) := by decide +kernel
theorem d_M_make_212 : decode prog_10_method_11_code 212 = .ok (.ifCond .eq 40, 3) := by decide +kernel
theorem d_M_make_215 : decode prog_10_method_11_code 215 = .ok (.iload 5, 2) := by decide +kernel
theorem d_M_make_217 : decode prog_10_method_11_code 217 = .ok (.iconst 1, 1) := by decide +kernel
theorem d_M_make_218 : decode prog_10_method_11_code 218 = .ok (.if_icmp .eq 22, 3) := by decide +kernel
theorem d_M_make_221 : decode prog_10_method_11_code 221 = .ok (.iload 5, 2) := by decide +kernel
theorem d_M_make_223 : decode prog_10_method_11_code 223 = .ok (.iconst 2, 1) := by decide +kernel
theorem d_M_make_224 : decode prog_10_method_11_code 224 = .ok (.if_icmp .eq 16, 3) := by decide +kernel
theorem d_M_make_227 : decode prog_10_method_11_code 227 = .ok (.iload 5, 2) := by decide +kernel
theorem d_M_make_229 : decode prog_10_method_11_code 229 = .ok (.iconst 5, 1) := by decide +kernel
theorem d_M_make_230 : decode prog_10_method_11_code 230 = .ok (.if_icmp .eq 10, 3) := by decide +kernel
theorem d_M_make_233 : decode prog_10_method_11_code 233 = .ok (.iload 5, 2) := by decide +kernel
theorem d_M_make_235 : decode prog_10_method_11_code 235 = .ok (.bipush 6, 2) := by decide +kernel
theorem d_M_make_237 : decode prog_10_method_11_code 237 = .ok (.if_icmp .ne 15, 3) := by decide +kernel
theorem d_M_make_240 : decode prog_10_method_11_code 240 = .ok (.iload 7, 2) := by decide +kernel
theorem d_M_make_242 : decode prog_10_method_11_code 242 = .ok (.ifCond .ne 7, 3) := by decide +kernel
theorem d_M_make_245 : decode prog_10_method_11_code 245 = .ok (.iconst 1, 1) := by decide +kernel
theorem d_M_make_246 : decode prog_10_method_11_code 246 = .ok (.goto 4, 3) := by decide +kernel
theorem d_M_make_249 : decode prog_10_method_11_code 249 = .ok (.iconst 0, 1) := by decide +kernel
theorem d_M_make_250 : decode prog_10_method_11_code 250 = .ok (.istore 10, 2) := by decide +kernel
theorem d_M_make_252 : decode prog_10_method_11_code 252 = .ok (.bipush 16, 2) := by decide +kernel
theorem d_M_make_254 : decode prog_10_method_11_code 254 = .ok (.iload 6, 2) := by decide +kernel
theorem d_M_make_256 : decode prog_10_method_11_code 256 = .ok (.imul, 1) := by decide +kernel
theorem d_M_make_257 : decode prog_10_method_11_code 257 = .ok (.iload 10, 2) := by decide +kernel
theorem d_M_make_259 : decode prog_10_method_11_code 259 = .ok (.ifCond .eq 11, 3) := by decide +kernel
theorem d_M_make_262 : decode prog_10_method_11_code 262 = .ok (.bipush 15, 2) := by decide +kernel
theorem d_M_make_264 : decode prog_10_method_11_code 264 = .ok (.iload 8, 2) := by decide +kernel
theorem d_M_make_266 : decode prog_10_method_11_code 266 = .ok (.isub, 1) := by decide +kernel
theorem d_M_make_267 : decode prog_10_method_11_code 267 = .ok (.goto 5, 3) := by decide +kernel
theorem d_M_make_270 : decode prog_10_method_11_code 270 = .ok (.iload 8, 2) := by decide +kernel
theorem d_M_make_272 : decode prog_10_method_11_code 272 = .ok (.iadd, 1) := by decide +kernel
theorem d_M_make_273 : decode prog_10_method_11_code 273 = .ok (.ireturn, 1) := by decide +kernel
theorem d_M_ones_0 : decode prog_10_method_8_code 0 = .ok (.iconst 0, 1) := by decide +kernel
theorem d_M_ones_1 : decode prog_10_method_8_code 1 = .ok (.istore_n 1, 1) := by decide +kernel
theorem d_M_ones_2 : decode prog_10_method_8_code 2 = .ok (.iconst 0, 1) := by decide +kernel
theorem d_M_ones_3 : decode prog_10_method_8_code 3 = .ok (.istore_n 2, 1) := by decide +kernel
theorem d_M_ones_4 : decode prog_10_method_8_code 4 = .ok (.iload_n 2, 1) := by decide +kernel
theorem d_M_ones_5 : decode prog_10_method_8_code 5 = .ok (.bipush 10, 2) := by decide +kernel
theorem d_M_ones_7 : decode prog_10_method_8_code 7 = .ok (.if_icmp .ge 17, 3) := by decide +kernel
theorem d_M_ones_10 : decode prog_10_method_8_code 10 = .ok (.iload_n 1, 1) := by decide +kernel
theorem d_M_ones_11 : decode prog_10_method_8_code 11 = .ok (.iload_n 0, 1) := by decide +kernel
theorem d_M_ones_12 : decode prog_10_method_8_code 12 = .ok (.iload_n 2, 1) := by decide +kernel
theorem d_M_ones_13 : decode prog_10_method_8_code 13 = .ok (.ishr, 1) := by decide +kernel
theorem d_M_ones_14 : decode prog_10_method_8_code 14 = .ok (.iconst 1, 1) := by decide +kernel
theorem d_M_ones_15 : decode prog_10_method_8_code 15 = .ok (.iand, 1) := by decide +kernel
theorem d_M_ones_16 : decode prog_10_method_8_code 16 = .ok (.iadd, 1) := by decide +kernel
theorem d_M_ones_17 : decode prog_10_method_8_code 17 = .ok (.istore_n 1, 1) := by decide +kernel
theorem d_M_ones_18 : decode prog_10_method_8_code 18 = .ok (.iinc 2 1, 3) := by decide +kernel
theorem d_M_ones_21 : decode prog_10_method_8_code 21 = .ok (.goto (-17), 3) := by decide +kernel
theorem d_M_ones_24 : decode prog_10_method_8_code 24 = .ok (.iload_n 1, 1) := by decide +kernel
theorem d_M_ones_25 : decode prog_10_method_8_code 25 = .ok (.ireturn, 1) := by decide +kernel
theorem d_M_behindSix_0 : decode prog_10_method_9_code 0 = .ok (.iload_n 0, 1) := by decide +kernel
theorem d_M_behindSix_1 : decode prog_10_method_9_code 1 = .ok (.invokestatic 91, 3) := by decide +kernel
theorem d_M_behindSix_4 : decode prog_10_method_9_code 4 = .ok (.istore_n 2, 1) := by decide +kernel
theorem d_M_behindSix_5 : decode prog_10_method_9_code 5 = .ok (.iload_n 2, 1) := by decide +kernel
theorem d_M_behindSix_6 : decode prog_10_method_9_code 6 = .ok (.iconst 3, 1) := by decide +kernel
theorem d_M_behindSix_7 : decode prog_10_method_9_code 7 = .ok (.if_icmp .gt 24, 3) := by decide +kernel
theorem d_M_behindSix_10 : decode prog_10_method_9_code 10 = .ok (.iload_n 0, 1) := by decide +kernel
theorem d_M_behindSix_11 : decode prog_10_method_9_code 11 = .ok (.bipush 7, 2) := by decide +kernel
theorem d_M_behindSix_13 : decode prog_10_method_9_code 13 = .ok (.if_icmp .eq 18, 3) := by decide +kernel
theorem d_M_behindSix_16 : decode prog_10_method_9_code 16 = .ok (.iload_n 2, 1) := by decide +kernel
theorem d_M_behindSix_17 : decode prog_10_method_9_code 17 = .ok (.iconst 3, 1) := by decide +kernel
theorem d_M_behindSix_18 : decode prog_10_method_9_code 18 = .ok (.if_icmp .ne 17, 3) := by decide +kernel
theorem d_M_behindSix_21 : decode prog_10_method_9_code 21 = .ok (.iload_n 0, 1) := by decide +kernel
theorem d_M_behindSix_22 : decode prog_10_method_9_code 22 = .ok (.bipush 56, 2) := by decide +kernel
theorem d_M_behindSix_24 : decode prog_10_method_9_code 24 = .ok (.if_icmp .eq 11, 3) := by decide +kernel
theorem d_M_behindSix_27 : decode prog_10_method_9_code 27 = .ok (.iload_n 1, 1) := by decide +kernel
theorem d_M_behindSix_28 : decode prog_10_method_9_code 28 = .ok (.ifCond .eq 7, 3) := by decide +kernel
theorem d_M_behindSix_31 : decode prog_10_method_9_code 31 = .ok (.iconst 1, 1) := by decide +kernel
theorem d_M_behindSix_32 : decode prog_10_method_9_code 32 = .ok (.goto 4, 3) := by decide +kernel
theorem d_M_behindSix_35 : decode prog_10_method_9_code 35 = .ok (.iconst 0, 1) := by decide +kernel
theorem d_M_behindSix_36 : decode prog_10_method_9_code 36 = .ok (.ireturn, 1) := by decide +kernel
theorem d_M_empty_0 : decode prog_10_method_5_code 0 = .ok (.iconst 0, 1) := by decide +kernel
theorem d_M_empty_1 : decode prog_10_method_5_code 1 = .ok (.istore_n 1, 1) := by decide +kernel
theorem d_M_empty_2 : decode prog_10_method_5_code 2 = .ok (.iload_n 1, 1) := by decide +kernel
theorem d_M_empty_3 : decode prog_10_method_5_code 3 = .ok (.iconst 2, 1) := by decide +kernel
theorem d_M_empty_4 : decode prog_10_method_5_code 4 = .ok (.if_icmp .ge 51, 3) := by decide +kernel
theorem d_M_empty_7 : decode prog_10_method_5_code 7 = .ok (.aload_n 0, 1) := by decide +kernel
theorem d_M_empty_8 : decode prog_10_method_5_code 8 = .ok (.getfield 25, 3) := by decide +kernel
theorem d_M_empty_11 : decode prog_10_method_5_code 11 = .ok (.iload_n 1, 1) := by decide +kernel
theorem d_M_empty_12 : decode prog_10_method_5_code 12 = .ok (.iconst 0, 1) := by decide +kernel
theorem d_M_empty_13 : decode prog_10_method_5_code 13 = .ok (.iastore, 1) := by decide +kernel
theorem d_M_empty_14 : decode prog_10_method_5_code 14 = .ok (.aload_n 0, 1) := by decide +kernel
theorem d_M_empty_15 : decode prog_10_method_5_code 15 = .ok (.getfield 28, 3) := by decide +kernel
theorem d_M_empty_18 : decode prog_10_method_5_code 18 = .ok (.iload_n 1, 1) := by decide +kernel
theorem d_M_empty_19 : decode prog_10_method_5_code 19 = .ok (.iconst 0, 1) := by decide +kernel
theorem d_M_empty_20 : decode prog_10_method_5_code 20 = .ok (.iastore, 1) := by decide +kernel
theorem d_M_empty_21 : decode prog_10_method_5_code 21 = .ok (.aload_n 0, 1) := by decide +kernel
theorem d_M_empty_22 : decode prog_10_method_5_code 22 = .ok (.getfield 31, 3) := by decide +kernel
theorem d_M_empty_25 : decode prog_10_method_5_code 25 = .ok (.iload_n 1, 1) := by decide +kernel
theorem d_M_empty_26 : decode prog_10_method_5_code 26 = .ok (.iconst 0, 1) := by decide +kernel
theorem d_M_empty_27 : decode prog_10_method_5_code 27 = .ok (.bastore, 1) := by decide +kernel
theorem d_M_empty_28 : decode prog_10_method_5_code 28 = .ok (.aload_n 0, 1) := by decide +kernel
theorem d_M_empty_29 : decode prog_10_method_5_code 29 = .ok (.getfield 35, 3) := by decide +kernel
theorem d_M_empty_32 : decode prog_10_method_5_code 32 = .ok (.iload_n 1, 1) := by decide +kernel
theorem d_M_empty_33 : decode prog_10_method_5_code 33 = .ok (.iconst 0, 1) := by decide +kernel
theorem d_M_empty_34 : decode prog_10_method_5_code 34 = .ok (.iastore, 1) := by decide +kernel
theorem d_M_empty_35 : decode prog_10_method_5_code 35 = .ok (.aload_n 0, 1) := by decide +kernel
theorem d_M_empty_36 : decode prog_10_method_5_code 36 = .ok (.getfield 38, 3) := by decide +kernel
theorem d_M_empty_39 : decode prog_10_method_5_code 39 = .ok (.iload_n 1, 1) := by decide +kernel
theorem d_M_empty_40 : decode prog_10_method_5_code 40 = .ok (.iconst 0, 1) := by decide +kernel
theorem d_M_empty_41 : decode prog_10_method_5_code 41 = .ok (.iastore, 1) := by decide +kernel
theorem d_M_empty_42 : decode prog_10_method_5_code 42 = .ok (.aload_n 0, 1) := by decide +kernel
theorem d_M_empty_43 : decode prog_10_method_5_code 43 = .ok (.getfield 41, 3) := by decide +kernel
theorem d_M_empty_46 : decode prog_10_method_5_code 46 = .ok (.iload_n 1, 1) := by decide +kernel
theorem d_M_empty_47 : decode prog_10_method_5_code 47 = .ok (.iconst 0, 1) := by decide +kernel
theorem d_M_empty_48 : decode prog_10_method_5_code 48 = .ok (.iastore, 1) := by decide +kernel
theorem d_M_empty_49 : decode prog_10_method_5_code 49 = .ok (.iinc 1 1, 3) := by decide +kernel
theorem d_M_empty_52 : decode prog_10_method_5_code 52 = .ok (.goto (-50), 3) := by decide +kernel
theorem d_M_empty_55 : decode prog_10_method_5_code 55 = .ok (.iconst 0, 1) := by decide +kernel
theorem d_M_empty_56 : decode prog_10_method_5_code 56 = .ok (.istore_n 1, 1) := by decide +kernel
theorem d_M_empty_57 : decode prog_10_method_5_code 57 = .ok (.iload_n 1, 1) := by decide +kernel
theorem d_M_empty_58 : decode prog_10_method_5_code 58 = .ok (.bipush 58, 2) := by decide +kernel
theorem d_M_empty_60 : decode prog_10_method_5_code 60 = .ok (.if_icmp .ge 23, 3) := by decide +kernel
theorem d_M_empty_63 : decode prog_10_method_5_code 63 = .ok (.aload_n 0, 1) := by decide +kernel
theorem d_M_empty_64 : decode prog_10_method_5_code 64 = .ok (.getfield 44, 3) := by decide +kernel
theorem d_M_empty_67 : decode prog_10_method_5_code 67 = .ok (.iload_n 1, 1) := by decide +kernel
theorem d_M_empty_68 : decode prog_10_method_5_code 68 = .ok (.iconst 1, 1) := by decide +kernel
theorem d_M_empty_69 : decode prog_10_method_5_code 69 = .ok (.iastore, 1) := by decide +kernel
theorem d_M_empty_70 : decode prog_10_method_5_code 70 = .ok (.aload_n 0, 1) := by decide +kernel
theorem d_M_empty_71 : decode prog_10_method_5_code 71 = .ok (.getfield 47, 3) := by decide +kernel
theorem d_M_empty_74 : decode prog_10_method_5_code 74 = .ok (.iload_n 1, 1) := by decide +kernel
theorem d_M_empty_75 : decode prog_10_method_5_code 75 = .ok (.iconst 1, 1) := by decide +kernel
theorem d_M_empty_76 : decode prog_10_method_5_code 76 = .ok (.iastore, 1) := by decide +kernel
theorem d_M_empty_77 : decode prog_10_method_5_code 77 = .ok (.iinc 1 1, 3) := by decide +kernel
theorem d_M_empty_80 : decode prog_10_method_5_code 80 = .ok (.goto (-23), 3) := by decide +kernel
theorem d_M_empty_83 : decode prog_10_method_5_code 83 = .ok (.aload_n 0, 1) := by decide +kernel
theorem d_M_empty_84 : decode prog_10_method_5_code 84 = .ok (.iconst 0, 1) := by decide +kernel
theorem d_M_empty_85 : decode prog_10_method_5_code 85 = .ok (.putfield 65, 3) := by decide +kernel
theorem d_M_empty_88 : decode prog_10_method_5_code 88 = .ok (.aload_n 0, 1) := by decide +kernel
theorem d_M_empty_89 : decode prog_10_method_5_code 89 = .ok (.iconst 0, 1) := by decide +kernel
theorem d_M_empty_90 : decode prog_10_method_5_code 90 = .ok (.putfield 68, 3) := by decide +kernel
theorem d_M_empty_93 : decode prog_10_method_5_code 93 = .ok (.aload_n 0, 1) := by decide +kernel
theorem d_M_empty_94 : decode prog_10_method_5_code 94 = .ok (.iconst 0, 1) := by decide +kernel
theorem d_M_empty_95 : decode prog_10_method_5_code 95 = .ok (.putfield 72, 3) := by decide +kernel
theorem d_M_empty_98 : decode prog_10_method_5_code 98 = .ok (.aload_n 0, 1) := by decide +kernel
theorem d_M_empty_99 : decode prog_10_method_5_code 99 = .ok (.iconst 0, 1) := by decide +kernel
theorem d_M_empty_100 : decode prog_10_method_5_code 100 = .ok (.putfield 75, 3) := by decide +kernel
theorem d_M_empty_103 : decode prog_10_method_5_code 103 = .ok (.aload_n 0, 1) := by decide +kernel
theorem d_M_empty_104 : decode prog_10_method_5_code 104 = .ok (.iconst 0, 1) := by decide +kernel
theorem d_M_empty_105 : decode prog_10_method_5_code 105 = .ok (.putfield 78, 3) := by decide +kernel
theorem d_M_empty_108 : decode prog_10_method_5_code 108 = .ok (.aload_n 0, 1) := by decide +kernel
theorem d_M_empty_109 : decode prog_10_method_5_code 109 = .ok (.iconst 0, 1) := by decide +kernel
theorem d_M_empty_110 : decode prog_10_method_5_code 110 = .ok (.putfield 81, 3) := by decide +kernel
theorem d_M_empty_113 : decode prog_10_method_5_code 113 = .ok (.aload_n 0, 1) := by decide +kernel
theorem d_M_empty_114 : decode prog_10_method_5_code 114 = .ok (.iconst 0, 1) := by decide +kernel
theorem d_M_empty_115 : decode prog_10_method_5_code 115 = .ok (.putfield 84, 3) := by decide +kernel
theorem d_M_empty_118 : decode prog_10_method_5_code 118 = .ok (.aload_n 0, 1) := by decide +kernel
theorem d_M_empty_119 : decode prog_10_method_5_code 119 = .ok (.lconst 0, 1) := by decide +kernel
theorem d_M_empty_120 : decode prog_10_method_5_code 120 = .ok (.putfield 87, 3) := by decide +kernel
theorem d_M_empty_123 : decode prog_10_method_5_code 123 = .ok (.return_, 1) := by decide +kernel
theorem d_M_thrown_0 : decode prog_10_method_2_code 0 = .ok (.aload_n 0, 1) := by decide +kernel
theorem d_M_thrown_1 : decode prog_10_method_2_code 1 = .ok (.getfield 61, 3) := by decide +kernel
theorem d_M_thrown_4 : decode prog_10_method_2_code 4 = .ok (.ireturn, 1) := by decide +kernel
theorem d_M_clear_0 : decode prog_10_method_6_code 0 = .ok (.aload_n 0, 1) := by decide +kernel
theorem d_M_clear_1 : decode prog_10_method_6_code 1 = .ok (.iconst 0, 1) := by decide +kernel
theorem d_M_clear_2 : decode prog_10_method_6_code 2 = .ok (.putfield 61, 3) := by decide +kernel
theorem d_M_clear_5 : decode prog_10_method_6_code 5 = .ok (.aload_n 0, 1) := by decide +kernel
theorem d_M_clear_6 : decode prog_10_method_6_code 6 = .ok (.invokevirtual 58, 3) := by decide +kernel
theorem d_M_clear_9 : decode prog_10_method_6_code 9 = .ok (.return_, 1) := by decide +kernel
theorem d_M_code_0 : decode prog_10_method_13_code 0 = .ok (.aload_n 0, 1) := by decide +kernel
theorem d_M_code_1 : decode prog_10_method_13_code 1 = .ok (.iload_n 1, 1) := by decide +kernel
theorem d_M_code_2 : decode prog_10_method_13_code 2 = .ok (.invokestatic 50, 3) := by decide +kernel
theorem d_M_code_5 : decode prog_10_method_13_code 5 = .ok (.ifCond .eq 7, 3) := by decide +kernel
theorem d_M_code_8 : decode prog_10_method_13_code 8 = .ok (.iconst 0, 1) := by decide +kernel
theorem d_M_code_9 : decode prog_10_method_13_code 9 = .ok (.goto 4, 3) := by decide +kernel
theorem d_M_code_12 : decode prog_10_method_13_code 12 = .ok (.iconst 1, 1) := by decide +kernel
theorem d_M_code_13 : decode prog_10_method_13_code 13 = .ok (.invokevirtual 102, 3) := by decide +kernel
theorem d_M_code_16 : decode prog_10_method_13_code 16 = .ok (.ifCond .eq 5, 3) := by decide +kernel
theorem d_M_code_19 : decode prog_10_method_13_code 19 = .ok (.iconst 0, 1) := by decide +kernel
theorem d_M_code_20 : decode prog_10_method_13_code 20 = .ok (.ireturn, 1) := by decide +kernel
theorem d_M_code_21 : decode prog_10_method_13_code 21 = .ok (.aload_n 0, 1) := by decide +kernel
theorem d_M_code_22 : decode prog_10_method_13_code 22 = .ok (.getfield 16, 3) := by decide +kernel
theorem d_M_code_25 : decode prog_10_method_13_code 25 = .ok (.iconst 2, 1) := by decide +kernel
theorem d_M_code_26 : decode prog_10_method_13_code 26 = .ok (.iload_n 1, 1) := by decide +kernel
theorem d_M_code_27 : decode prog_10_method_13_code 27 = .ok (.imul, 1) := by decide +kernel
theorem d_M_code_28 : decode prog_10_method_13_code 28 = .ok (.iload_n 2, 1) := by decide +kernel
theorem d_M_code_29 : decode prog_10_method_13_code 29 = .ok (.ifCond .eq 7, 3) := by decide +kernel
theorem d_M_code_32 : decode prog_10_method_13_code 32 = .ok (.iconst 1, 1) := by decide +kernel
theorem d_M_code_33 : decode prog_10_method_13_code 33 = .ok (.goto 4, 3) := by decide +kernel
theorem d_M_code_36 : decode prog_10_method_13_code 36 = .ok (.iconst 0, 1) := by decide +kernel
theorem d_M_code_37 : decode prog_10_method_13_code 37 = .ok (.iadd, 1) := by decide +kernel
theorem d_M_code_38 : decode prog_10_method_13_code 38 = .ok (.iaload, 1) := by decide +kernel
theorem d_M_code_39 : decode prog_10_method_13_code 39 = .ok (.ireturn, 1) := by decide +kernel
theorem d_M_refused_0 : decode prog_10_method_3_code 0 = .ok (.aload_n 0, 1) := by decide +kernel
theorem d_M_refused_1 : decode prog_10_method_3_code 1 = .ok (.iload_n 1, 1) := by decide +kernel
theorem d_M_refused_2 : decode prog_10_method_3_code 2 = .ok (.putfield 61, 3) := by decide +kernel
theorem d_M_refused_5 : decode prog_10_method_3_code 5 = .ok (.iload_n 1, 1) := by decide +kernel
theorem d_M_refused_6 : decode prog_10_method_3_code 6 = .ok (.ifCond .le 7, 3) := by decide +kernel
theorem d_M_refused_9 : decode prog_10_method_3_code 9 = .ok (.iconst 1, 1) := by decide +kernel
theorem d_M_refused_10 : decode prog_10_method_3_code 10 = .ok (.goto 4, 3) := by decide +kernel
theorem d_M_refused_13 : decode prog_10_method_3_code 13 = .ok (.iconst 0, 1) := by decide +kernel
theorem d_M_refused_14 : decode prog_10_method_3_code 14 = .ok (.ireturn, 1) := by decide +kernel
theorem d_M_symbol_0 : decode prog_10_method_14_code 0 = .ok (.aload_n 0, 1) := by decide +kernel
theorem d_M_symbol_1 : decode prog_10_method_14_code 1 = .ok (.iload_n 1, 1) := by decide +kernel
theorem d_M_symbol_2 : decode prog_10_method_14_code 2 = .ok (.iconst 0, 1) := by decide +kernel
theorem d_M_symbol_3 : decode prog_10_method_14_code 3 = .ok (.sipush 1023, 3) := by decide +kernel
theorem d_M_symbol_6 : decode prog_10_method_14_code 6 = .ok (.invokestatic 105, 3) := by decide +kernel
theorem d_M_symbol_9 : decode prog_10_method_14_code 9 = .ok (.ifCond .eq 7, 3) := by decide +kernel
theorem d_M_symbol_12 : decode prog_10_method_14_code 12 = .ok (.iconst 0, 1) := by decide +kernel
theorem d_M_symbol_13 : decode prog_10_method_14_code 13 = .ok (.goto 4, 3) := by decide +kernel
theorem d_M_symbol_16 : decode prog_10_method_14_code 16 = .ok (.iconst 1, 1) := by decide +kernel
theorem d_M_symbol_17 : decode prog_10_method_14_code 17 = .ok (.invokevirtual 102, 3) := by decide +kernel
theorem d_M_symbol_20 : decode prog_10_method_14_code 20 = .ok (.ifCond .eq 5, 3) := by decide +kernel
theorem d_M_symbol_23 : decode prog_10_method_14_code 23 = .ok (.iconst 0, 1) := by decide +kernel
theorem d_M_symbol_24 : decode prog_10_method_14_code 24 = .ok (.ireturn, 1) := by decide +kernel
theorem d_M_symbol_25 : decode prog_10_method_14_code 25 = .ok (.aload_n 0, 1) := by decide +kernel
theorem d_M_symbol_26 : decode prog_10_method_14_code 26 = .ok (.getfield 19, 3) := by decide +kernel
theorem d_M_symbol_29 : decode prog_10_method_14_code 29 = .ok (.iload_n 1, 1) := by decide +kernel
theorem d_M_symbol_30 : decode prog_10_method_14_code 30 = .ok (.iaload, 1) := by decide +kernel
theorem d_M_symbol_31 : decode prog_10_method_14_code 31 = .ok (.ireturn, 1) := by decide +kernel
theorem d_M_isIn_0 : decode prog_10_method_4_code 0 = .ok (.iload_n 0, 1) := by decide +kernel
theorem d_M_isIn_1 : decode prog_10_method_4_code 1 = .ok (.iload_n 1, 1) := by decide +kernel
theorem d_M_isIn_2 : decode prog_10_method_4_code 2 = .ok (.if_icmp .lt 12, 3) := by decide +kernel
theorem d_M_isIn_5 : decode prog_10_method_4_code 5 = .ok (.iload_n 0, 1) := by decide +kernel
theorem d_M_isIn_6 : decode prog_10_method_4_code 6 = .ok (.iload_n 2, 1) := by decide +kernel
theorem d_M_isIn_7 : decode prog_10_method_4_code 7 = .ok (.if_icmp .gt 7, 3) := by decide +kernel
theorem d_M_isIn_10 : decode prog_10_method_4_code 10 = .ok (.iconst 1, 1) := by decide +kernel
theorem d_M_isIn_11 : decode prog_10_method_4_code 11 = .ok (.goto 4, 3) := by decide +kernel
theorem d_M_isIn_14 : decode prog_10_method_4_code 14 = .ok (.iconst 0, 1) := by decide +kernel
theorem d_M_isIn_15 : decode prog_10_method_4_code 15 = .ok (.ireturn, 1) := by decide +kernel
theorem d_M_send_0 : decode prog_10_method_16_code 0 = .ok (.aload_n 0, 1) := by decide +kernel
theorem d_M_send_1 : decode prog_10_method_16_code 1 = .ok (.iload_n 1, 1) := by decide +kernel
theorem d_M_send_2 : decode prog_10_method_16_code 2 = .ok (.invokestatic 50, 3) := by decide +kernel
theorem d_M_send_5 : decode prog_10_method_16_code 5 = .ok (.ifCond .ne 7, 3) := by decide +kernel
theorem d_M_send_8 : decode prog_10_method_16_code 8 = .ok (.iconst 1, 1) := by decide +kernel
theorem d_M_send_9 : decode prog_10_method_16_code 9 = .ok (.goto 23, 3) := by decide +kernel
theorem d_M_send_12 : decode prog_10_method_16_code 12 = .ok (.aload_n 0, 1) := by decide +kernel
theorem d_M_send_13 : decode prog_10_method_16_code 13 = .ok (.getfield 25, 3) := by decide +kernel
theorem d_M_send_16 : decode prog_10_method_16_code 16 = .ok (.iconst 0, 1) := by decide +kernel
theorem d_M_send_17 : decode prog_10_method_16_code 17 = .ok (.iaload, 1) := by decide +kernel
theorem d_M_send_18 : decode prog_10_method_16_code 18 = .ok (.bipush 10, 2) := by decide +kernel
theorem d_M_send_20 : decode prog_10_method_16_code 20 = .ok (.iadd, 1) := by decide +kernel
theorem d_M_send_21 : decode prog_10_method_16_code 21 = .ok (.sipush 2640, 3) := by decide +kernel
theorem d_M_send_24 : decode prog_10_method_16_code 24 = .ok (.if_icmp .le 7, 3) := by decide +kernel
theorem d_M_send_27 : decode prog_10_method_16_code 27 = .ok (.iconst 2, 1) := by decide +kernel
theorem d_M_send_28 : decode prog_10_method_16_code 28 = .ok (.goto 4, 3) := by decide +kernel
theorem d_M_send_31 : decode prog_10_method_16_code 31 = .ok (.iconst 0, 1) := by decide +kernel
theorem d_M_send_32 : decode prog_10_method_16_code 32 = .ok (.invokevirtual 102, 3) := by decide +kernel
theorem d_M_send_35 : decode prog_10_method_16_code 35 = .ok (.ifCond .eq 5, 3) := by decide +kernel
theorem d_M_send_38 : decode prog_10_method_16_code 38 = .ok (.iconst 0, 1) := by decide +kernel
theorem d_M_send_39 : decode prog_10_method_16_code 39 = .ok (.ireturn, 1) := by decide +kernel
theorem d_M_send_40 : decode prog_10_method_16_code 40 = .ok (.aload_n 0, 1) := by decide +kernel
theorem d_M_send_41 : decode prog_10_method_16_code 41 = .ok (.getfield 16, 3) := by decide +kernel
theorem d_M_send_44 : decode prog_10_method_16_code 44 = .ok (.iconst 2, 1) := by decide +kernel
theorem d_M_send_45 : decode prog_10_method_16_code 45 = .ok (.iload_n 1, 1) := by decide +kernel
theorem d_M_send_46 : decode prog_10_method_16_code 46 = .ok (.imul, 1) := by decide +kernel
theorem d_M_send_47 : decode prog_10_method_16_code 47 = .ok (.aload_n 0, 1) := by decide +kernel
theorem d_M_send_48 : decode prog_10_method_16_code 48 = .ok (.getfield 68, 3) := by decide +kernel
theorem d_M_send_51 : decode prog_10_method_16_code 51 = .ok (.ifCond .eq 7, 3) := by decide +kernel
theorem d_M_send_54 : decode prog_10_method_16_code 54 = .ok (.iconst 1, 1) := by decide +kernel
theorem d_M_send_55 : decode prog_10_method_16_code 55 = .ok (.goto 4, 3) := by decide +kernel
theorem d_M_send_58 : decode prog_10_method_16_code 58 = .ok (.iconst 0, 1) := by decide +kernel
theorem d_M_send_59 : decode prog_10_method_16_code 59 = .ok (.iadd, 1) := by decide +kernel
theorem d_M_send_60 : decode prog_10_method_16_code 60 = .ok (.iaload, 1) := by decide +kernel
theorem d_M_send_61 : decode prog_10_method_16_code 61 = .ok (.istore_n 2, 1) := by decide +kernel
theorem d_M_send_62 : decode prog_10_method_16_code 62 = .ok (.bipush 9, 2) := by decide +kernel
theorem d_M_send_64 : decode prog_10_method_16_code 64 = .ok (.istore_n 3, 1) := by decide +kernel
theorem d_M_send_65 : decode prog_10_method_16_code 65 = .ok (.iload_n 3, 1) := by decide +kernel
theorem d_M_send_66 : decode prog_10_method_16_code 66 = .ok (.ifCond .lt 19, 3) := by decide +kernel
theorem d_M_send_69 : decode prog_10_method_16_code 69 = .ok (.aload_n 0, 1) := by decide +kernel
theorem d_M_send_70 : decode prog_10_method_16_code 70 = .ok (.iconst 0, 1) := by decide +kernel
theorem d_M_send_71 : decode prog_10_method_16_code 71 = .ok (.iload_n 2, 1) := by decide +kernel
theorem d_M_send_72 : decode prog_10_method_16_code 72 = .ok (.iload_n 3, 1) := by decide +kernel
theorem d_M_send_73 : decode prog_10_method_16_code 73 = .ok (.ishr, 1) := by decide +kernel
theorem d_M_send_74 : decode prog_10_method_16_code 74 = .ok (.iconst 1, 1) := by decide +kernel
theorem d_M_send_75 : decode prog_10_method_16_code 75 = .ok (.iand, 1) := by decide +kernel
theorem d_M_send_76 : decode prog_10_method_16_code 76 = .ok (.invokevirtual 109, 3) := by decide +kernel
theorem d_M_send_79 : decode prog_10_method_16_code 79 = .ok (.iinc 3 (-1), 3) := by decide +kernel
theorem d_M_send_82 : decode prog_10_method_16_code 82 = .ok (.goto (-17), 3) := by decide +kernel
theorem d_M_send_85 : decode prog_10_method_16_code 85 = .ok (.aload_n 0, 1) := by decide +kernel
theorem d_M_send_86 : decode prog_10_method_16_code 86 = .ok (.iload_n 2, 1) := by decide +kernel
theorem d_M_send_87 : decode prog_10_method_16_code 87 = .ok (.aload_n 0, 1) := by decide +kernel
theorem d_M_send_88 : decode prog_10_method_16_code 88 = .ok (.getfield 68, 3) := by decide +kernel
theorem d_M_send_91 : decode prog_10_method_16_code 91 = .ok (.invokestatic 113, 3) := by decide +kernel
theorem d_M_send_94 : decode prog_10_method_16_code 94 = .ok (.putfield 68, 3) := by decide +kernel
theorem d_M_send_97 : decode prog_10_method_16_code 97 = .ok (.iload_n 2, 1) := by decide +kernel
theorem d_M_send_98 : decode prog_10_method_16_code 98 = .ok (.ireturn, 1) := by decide +kernel
theorem d_M_append_0 : decode prog_10_method_15_code 0 = .ok (.aload_n 0, 1) := by decide +kernel
theorem d_M_append_1 : decode prog_10_method_15_code 1 = .ok (.getfield 22, 3) := by decide +kernel
theorem d_M_append_4 : decode prog_10_method_15_code 4 = .ok (.sipush 2640, 3) := by decide +kernel
theorem d_M_append_7 : decode prog_10_method_15_code 7 = .ok (.iload_n 1, 1) := by decide +kernel
theorem d_M_append_8 : decode prog_10_method_15_code 8 = .ok (.imul, 1) := by decide +kernel
theorem d_M_append_9 : decode prog_10_method_15_code 9 = .ok (.aload_n 0, 1) := by decide +kernel
theorem d_M_append_10 : decode prog_10_method_15_code 10 = .ok (.getfield 25, 3) := by decide +kernel
theorem d_M_append_13 : decode prog_10_method_15_code 13 = .ok (.iload_n 1, 1) := by decide +kernel
theorem d_M_append_14 : decode prog_10_method_15_code 14 = .ok (.iaload, 1) := by decide +kernel
theorem d_M_append_15 : decode prog_10_method_15_code 15 = .ok (.iadd, 1) := by decide +kernel
theorem d_M_append_16 : decode prog_10_method_15_code 16 = .ok (.iload_n 2, 1) := by decide +kernel
theorem d_M_append_17 : decode prog_10_method_15_code 17 = .ok (.iastore, 1) := by decide +kernel
theorem d_M_append_18 : decode prog_10_method_15_code 18 = .ok (.aload_n 0, 1) := by decide +kernel
theorem d_M_append_19 : decode prog_10_method_15_code 19 = .ok (.getfield 25, 3) := by decide +kernel
theorem d_M_append_22 : decode prog_10_method_15_code 22 = .ok (.iload_n 1, 1) := by decide +kernel
theorem d_M_append_23 : decode prog_10_method_15_code 23 = .ok (.dup2, 1) := by decide +kernel
theorem d_M_append_24 : decode prog_10_method_15_code 24 = .ok (.iaload, 1) := by decide +kernel
theorem d_M_append_25 : decode prog_10_method_15_code 25 = .ok (.iconst 1, 1) := by decide +kernel
theorem d_M_append_26 : decode prog_10_method_15_code 26 = .ok (.iadd, 1) := by decide +kernel
theorem d_M_append_27 : decode prog_10_method_15_code 27 = .ok (.iastore, 1) := by decide +kernel
theorem d_M_append_28 : decode prog_10_method_15_code 28 = .ok (.return_, 1) := by decide +kernel
theorem d_M_behind_0 : decode prog_10_method_12_code 0 = .ok (.iload_n 0, 1) := by decide +kernel
theorem d_M_behind_1 : decode prog_10_method_12_code 1 = .ok (.bipush 15, 2) := by decide +kernel
theorem d_M_behind_3 : decode prog_10_method_12_code 3 = .ok (.iand, 1) := by decide +kernel
theorem d_M_behind_4 : decode prog_10_method_12_code 4 = .ok (.iload_n 0, 1) := by decide +kernel
theorem d_M_behind_5 : decode prog_10_method_12_code 5 = .ok (.iconst 4, 1) := by decide +kernel
theorem d_M_behind_6 : decode prog_10_method_12_code 6 = .ok (.ishr, 1) := by decide +kernel
theorem d_M_behind_7 : decode prog_10_method_12_code 7 = .ok (.iload_n 1, 1) := by decide +kernel
theorem d_M_behind_8 : decode prog_10_method_12_code 8 = .ok (.invokestatic 95, 3) := by decide +kernel
theorem d_M_behind_11 : decode prog_10_method_12_code 11 = .ok (.invokestatic 99, 3) := by decide +kernel
theorem d_M_behind_14 : decode prog_10_method_12_code 14 = .ok (.ireturn, 1) := by decide +kernel
theorem d_M_behindFour_0 : decode prog_10_method_10_code 0 = .ok (.iload_n 0, 1) := by decide +kernel
theorem d_M_behindFour_1 : decode prog_10_method_10_code 1 = .ok (.invokestatic 91, 3) := by decide +kernel
theorem d_M_behindFour_4 : decode prog_10_method_10_code 4 = .ok (.istore_n 2, 1) := by decide +kernel
theorem d_M_behindFour_5 : decode prog_10_method_10_code 5 = .ok (.iload_n 2, 1) := by decide +kernel
theorem d_M_behindFour_6 : decode prog_10_method_10_code 6 = .ok (.iconst 2, 1) := by decide +kernel
theorem d_M_behindFour_7 : decode prog_10_method_10_code 7 = .ok (.if_icmp .gt 23, 3) := by decide +kernel
theorem d_M_behindFour_10 : decode prog_10_method_10_code 10 = .ok (.iload_n 0, 1) := by decide +kernel
theorem d_M_behindFour_11 : decode prog_10_method_10_code 11 = .ok (.iconst 3, 1) := by decide +kernel
theorem d_M_behindFour_12 : decode prog_10_method_10_code 12 = .ok (.if_icmp .eq 18, 3) := by decide +kernel
theorem d_M_behindFour_15 : decode prog_10_method_10_code 15 = .ok (.iload_n 2, 1) := by decide +kernel
theorem d_M_behindFour_16 : decode prog_10_method_10_code 16 = .ok (.iconst 2, 1) := by decide +kernel
theorem d_M_behindFour_17 : decode prog_10_method_10_code 17 = .ok (.if_icmp .ne 17, 3) := by decide +kernel
theorem d_M_behindFour_20 : decode prog_10_method_10_code 20 = .ok (.iload_n 0, 1) := by decide +kernel
theorem d_M_behindFour_21 : decode prog_10_method_10_code 21 = .ok (.bipush 12, 2) := by decide +kernel
theorem d_M_behindFour_23 : decode prog_10_method_10_code 23 = .ok (.if_icmp .eq 11, 3) := by decide +kernel
theorem d_M_behindFour_26 : decode prog_10_method_10_code 26 = .ok (.iload_n 1, 1) := by decide +kernel
theorem d_M_behindFour_27 : decode prog_10_method_10_code 27 = .ok (.ifCond .eq 7, 3) := by decide +kernel
theorem d_M_behindFour_30 : decode prog_10_method_10_code 30 = .ok (.iconst 1, 1) := by decide +kernel
theorem d_M_behindFour_31 : decode prog_10_method_10_code 31 = .ok (.goto 4, 3) := by decide +kernel
theorem d_M_behindFour_34 : decode prog_10_method_10_code 34 = .ok (.iconst 0, 1) := by decide +kernel
theorem d_M_behindFour_35 : decode prog_10_method_10_code 35 = .ok (.ireturn, 1) := by decide +kernel
theorem d_M_receive_0 : decode prog_10_method_18_code 0 = .ok (.aload_n 0, 1) := by decide +kernel
theorem d_M_receive_1 : decode prog_10_method_18_code 1 = .ok (.iconst 0, 1) := by decide +kernel
theorem d_M_receive_2 : decode prog_10_method_18_code 2 = .ok (.putfield 61, 3) := by decide +kernel
theorem d_M_receive_5 : decode prog_10_method_18_code 5 = .ok (.aload_n 0, 1) := by decide +kernel
theorem d_M_receive_6 : decode prog_10_method_18_code 6 = .ok (.getfield 31, 3) := by decide +kernel
theorem d_M_receive_9 : decode prog_10_method_18_code 9 = .ok (.iconst 0, 1) := by decide +kernel
theorem d_M_receive_10 : decode prog_10_method_18_code 10 = .ok (.baload, 1) := by decide +kernel
theorem d_M_receive_11 : decode prog_10_method_18_code 11 = .ok (.ifCond .ne 88, 3) := by decide +kernel
theorem d_M_receive_14 : decode prog_10_method_18_code 14 = .ok (.aload_n 0, 1) := by decide +kernel
theorem d_M_receive_15 : decode prog_10_method_18_code 15 = .ok (.getfield 25, 3) := by decide +kernel
theorem d_M_receive_18 : decode prog_10_method_18_code 18 = .ok (.iconst 0, 1) := by decide +kernel
theorem d_M_receive_19 : decode prog_10_method_18_code 19 = .ok (.iaload, 1) := by decide +kernel
theorem d_M_receive_20 : decode prog_10_method_18_code 20 = .ok (.aload_n 0, 1) := by decide +kernel
theorem d_M_receive_21 : decode prog_10_method_18_code 21 = .ok (.getfield 28, 3) := by decide +kernel
theorem d_M_receive_24 : decode prog_10_method_18_code 24 = .ok (.iconst 0, 1) := by decide +kernel
theorem d_M_receive_25 : decode prog_10_method_18_code 25 = .ok (.iaload, 1) := by decide +kernel
theorem d_M_receive_26 : decode prog_10_method_18_code 26 = .ok (.isub, 1) := by decide +kernel
theorem d_M_receive_27 : decode prog_10_method_18_code 27 = .ok (.bipush 7, 2) := by decide +kernel
theorem d_M_receive_29 : decode prog_10_method_18_code 29 = .ok (.if_icmp .ge 5, 3) := by decide +kernel
theorem d_M_receive_32 : decode prog_10_method_18_code 32 = .ok (.iconst (-1), 1) := by decide +kernel
theorem d_M_receive_33 : decode prog_10_method_18_code 33 = .ok (.ireturn, 1) := by decide +kernel
theorem d_M_receive_34 : decode prog_10_method_18_code 34 = .ok (.aload_n 0, 1) := by decide +kernel
theorem d_M_receive_35 : decode prog_10_method_18_code 35 = .ok (.aload_n 0, 1) := by decide +kernel
theorem d_M_receive_36 : decode prog_10_method_18_code 36 = .ok (.getfield 28, 3) := by decide +kernel
theorem d_M_receive_39 : decode prog_10_method_18_code 39 = .ok (.iconst 0, 1) := by decide +kernel
theorem d_M_receive_40 : decode prog_10_method_18_code 40 = .ok (.iaload, 1) := by decide +kernel
theorem d_M_receive_41 : decode prog_10_method_18_code 41 = .ok (.bipush 7, 2) := by decide +kernel
theorem d_M_receive_43 : decode prog_10_method_18_code 43 = .ok (.invokevirtual 116, 3) := by decide +kernel
theorem d_M_receive_46 : decode prog_10_method_18_code 46 = .ok (.istore_n 1, 1) := by decide +kernel
theorem d_M_receive_47 : decode prog_10_method_18_code 47 = .ok (.iload_n 1, 1) := by decide +kernel
theorem d_M_receive_48 : decode prog_10_method_18_code 48 = .ok (.bipush 31, 2) := by decide +kernel
theorem d_M_receive_50 : decode prog_10_method_18_code 50 = .ok (.if_icmp .eq 32, 3) := by decide +kernel
theorem d_M_receive_53 : decode prog_10_method_18_code 53 = .ok (.iload_n 1, 1) := by decide +kernel
theorem d_M_receive_54 : decode prog_10_method_18_code 54 = .ok (.bipush 96, 2) := by decide +kernel
theorem d_M_receive_56 : decode prog_10_method_18_code 56 = .ok (.if_icmp .eq 26, 3) := by decide +kernel
theorem d_M_receive_59 : decode prog_10_method_18_code 59 = .ok (.aload_n 0, 1) := by decide +kernel
theorem d_M_receive_60 : decode prog_10_method_18_code 60 = .ok (.getfield 28, 3) := by decide +kernel
theorem d_M_receive_63 : decode prog_10_method_18_code 63 = .ok (.iconst 0, 1) := by decide +kernel
theorem d_M_receive_64 : decode prog_10_method_18_code 64 = .ok (.dup2, 1) := by decide +kernel
theorem d_M_receive_65 : decode prog_10_method_18_code 65 = .ok (.iaload, 1) := by decide +kernel
theorem d_M_receive_66 : decode prog_10_method_18_code 66 = .ok (.iconst 1, 1) := by decide +kernel
theorem d_M_receive_67 : decode prog_10_method_18_code 67 = .ok (.iadd, 1) := by decide +kernel
theorem d_M_receive_68 : decode prog_10_method_18_code 68 = .ok (.iastore, 1) := by decide +kernel
theorem d_M_receive_69 : decode prog_10_method_18_code 69 = .ok (.aload_n 0, 1) := by decide +kernel
theorem d_M_receive_70 : decode prog_10_method_18_code 70 = .ok (.getfield 38, 3) := by decide +kernel
theorem d_M_receive_73 : decode prog_10_method_18_code 73 = .ok (.iconst 0, 1) := by decide +kernel
theorem d_M_receive_74 : decode prog_10_method_18_code 74 = .ok (.dup2, 1) := by decide +kernel
theorem d_M_receive_75 : decode prog_10_method_18_code 75 = .ok (.iaload, 1) := by decide +kernel
theorem d_M_receive_76 : decode prog_10_method_18_code 76 = .ok (.iconst 1, 1) := by decide +kernel
theorem d_M_receive_77 : decode prog_10_method_18_code 77 = .ok (.iadd, 1) := by decide +kernel
theorem d_M_receive_78 : decode prog_10_method_18_code 78 = .ok (.iastore, 1) := by decide +kernel
theorem d_M_receive_79 : decode prog_10_method_18_code 79 = .ok (.bipush (-3), 2) := by decide +kernel
theorem d_M_receive_81 : decode prog_10_method_18_code 81 = .ok (.ireturn, 1) := by decide +kernel
theorem d_M_receive_82 : decode prog_10_method_18_code 82 = .ok (.aload_n 0, 1) := by decide +kernel
theorem d_M_receive_83 : decode prog_10_method_18_code 83 = .ok (.getfield 31, 3) := by decide +kernel
theorem d_M_receive_86 : decode prog_10_method_18_code 86 = .ok (.iconst 0, 1) := by decide +kernel
theorem d_M_receive_87 : decode prog_10_method_18_code 87 = .ok (.iconst 1, 1) := by decide +kernel
theorem d_M_receive_88 : decode prog_10_method_18_code 88 = .ok (.bastore, 1) := by decide +kernel
theorem d_M_receive_89 : decode prog_10_method_18_code 89 = .ok (.aload_n 0, 1) := by decide +kernel
theorem d_M_receive_90 : decode prog_10_method_18_code 90 = .ok (.iconst 1, 1) := by decide +kernel
theorem d_M_receive_91 : decode prog_10_method_18_code 91 = .ok (.putfield 75, 3) := by decide +kernel
theorem d_M_receive_94 : decode prog_10_method_18_code 94 = .ok (.aload_n 0, 1) := by decide +kernel
theorem d_M_receive_95 : decode prog_10_method_18_code 95 = .ok (.iconst 0, 1) := by decide +kernel
theorem d_M_receive_96 : decode prog_10_method_18_code 96 = .ok (.putfield 78, 3) := by decide +kernel
theorem d_M_receive_99 : decode prog_10_method_18_code 99 = .ok (.aload_n 0, 1) := by decide +kernel
theorem d_M_receive_100 : decode prog_10_method_18_code 100 = .ok (.getfield 25, 3) := by decide +kernel
theorem d_M_receive_103 : decode prog_10_method_18_code 103 = .ok (.iconst 0, 1) := by decide +kernel
theorem d_M_receive_104 : decode prog_10_method_18_code 104 = .ok (.iaload, 1) := by decide +kernel
theorem d_M_receive_105 : decode prog_10_method_18_code 105 = .ok (.aload_n 0, 1) := by decide +kernel
theorem d_M_receive_106 : decode prog_10_method_18_code 106 = .ok (.getfield 28, 3) := by decide +kernel
theorem d_M_receive_109 : decode prog_10_method_18_code 109 = .ok (.iconst 0, 1) := by decide +kernel
theorem d_M_receive_110 : decode prog_10_method_18_code 110 = .ok (.iaload, 1) := by decide +kernel
theorem d_M_receive_111 : decode prog_10_method_18_code 111 = .ok (.isub, 1) := by decide +kernel
theorem d_M_receive_112 : decode prog_10_method_18_code 112 = .ok (.bipush 10, 2) := by decide +kernel
theorem d_M_receive_114 : decode prog_10_method_18_code 114 = .ok (.if_icmp .ge 5, 3) := by decide +kernel
theorem d_M_receive_117 : decode prog_10_method_18_code 117 = .ok (.iconst (-1), 1) := by decide +kernel
theorem d_M_receive_118 : decode prog_10_method_18_code 118 = .ok (.ireturn, 1) := by decide +kernel
theorem d_M_receive_119 : decode prog_10_method_18_code 119 = .ok (.aload_n 0, 1) := by decide +kernel
theorem d_M_receive_120 : decode prog_10_method_18_code 120 = .ok (.aload_n 0, 1) := by decide +kernel
theorem d_M_receive_121 : decode prog_10_method_18_code 121 = .ok (.getfield 28, 3) := by decide +kernel
theorem d_M_receive_124 : decode prog_10_method_18_code 124 = .ok (.iconst 0, 1) := by decide +kernel
theorem d_M_receive_125 : decode prog_10_method_18_code 125 = .ok (.iaload, 1) := by decide +kernel
theorem d_M_receive_126 : decode prog_10_method_18_code 126 = .ok (.bipush 10, 2) := by decide +kernel
theorem d_M_receive_128 : decode prog_10_method_18_code 128 = .ok (.invokevirtual 116, 3) := by decide +kernel
theorem d_M_receive_131 : decode prog_10_method_18_code 131 = .ok (.istore_n 1, 1) := by decide +kernel
theorem d_M_receive_132 : decode prog_10_method_18_code 132 = .ok (.aload_n 0, 1) := by decide +kernel
theorem d_M_receive_133 : decode prog_10_method_18_code 133 = .ok (.getfield 28, 3) := by decide +kernel
theorem d_M_receive_136 : decode prog_10_method_18_code 136 = .ok (.iconst 0, 1) := by decide +kernel
theorem d_M_receive_137 : decode prog_10_method_18_code 137 = .ok (.aload_n 0, 1) := by decide +kernel
theorem d_M_receive_138 : decode prog_10_method_18_code 138 = .ok (.getfield 28, 3) := by decide +kernel
theorem d_M_receive_141 : decode prog_10_method_18_code 141 = .ok (.iconst 0, 1) := by decide +kernel
theorem d_M_receive_142 : decode prog_10_method_18_code 142 = .ok (.iaload, 1) := by decide +kernel
theorem d_M_receive_143 : decode prog_10_method_18_code 143 = .ok (.bipush 10, 2) := by decide +kernel
theorem d_M_receive_145 : decode prog_10_method_18_code 145 = .ok (.iadd, 1) := by decide +kernel
theorem d_M_receive_146 : decode prog_10_method_18_code 146 = .ok (.iastore, 1) := by decide +kernel
theorem d_M_receive_147 : decode prog_10_method_18_code 147 = .ok (.aload_n 0, 1) := by decide +kernel
theorem d_M_receive_148 : decode prog_10_method_18_code 148 = .ok (.iload_n 1, 1) := by decide +kernel
theorem d_M_receive_149 : decode prog_10_method_18_code 149 = .ok (.invokevirtual 120, 3) := by decide +kernel
theorem d_M_receive_152 : decode prog_10_method_18_code 152 = .ok (.ireturn, 1) := by decide +kernel
theorem d_M_bitsAt_0 : decode prog_10_method_17_code 0 = .ok (.iconst 0, 1) := by decide +kernel
theorem d_M_bitsAt_1 : decode prog_10_method_17_code 1 = .ok (.istore_n 3, 1) := by decide +kernel
theorem d_M_bitsAt_2 : decode prog_10_method_17_code 2 = .ok (.iload_n 1, 1) := by decide +kernel
theorem d_M_bitsAt_3 : decode prog_10_method_17_code 3 = .ok (.istore 4, 2) := by decide +kernel
theorem d_M_bitsAt_5 : decode prog_10_method_17_code 5 = .ok (.iload 4, 2) := by decide +kernel
theorem d_M_bitsAt_7 : decode prog_10_method_17_code 7 = .ok (.iload_n 1, 1) := by decide +kernel
theorem d_M_bitsAt_8 : decode prog_10_method_17_code 8 = .ok (.iload_n 2, 1) := by decide +kernel
theorem d_M_bitsAt_9 : decode prog_10_method_17_code 9 = .ok (.iadd, 1) := by decide +kernel
theorem d_M_bitsAt_10 : decode prog_10_method_17_code 10 = .ok (.if_icmp .ge 21, 3) := by decide +kernel
theorem d_M_bitsAt_13 : decode prog_10_method_17_code 13 = .ok (.iconst 2, 1) := by decide +kernel
theorem d_M_bitsAt_14 : decode prog_10_method_17_code 14 = .ok (.iload_n 3, 1) := by decide +kernel
theorem d_M_bitsAt_15 : decode prog_10_method_17_code 15 = .ok (.imul, 1) := by decide +kernel
theorem d_M_bitsAt_16 : decode prog_10_method_17_code 16 = .ok (.aload_n 0, 1) := by decide +kernel
theorem d_M_bitsAt_17 : decode prog_10_method_17_code 17 = .ok (.getfield 22, 3) := by decide +kernel
theorem d_M_bitsAt_20 : decode prog_10_method_17_code 20 = .ok (.iload 4, 2) := by decide +kernel
theorem d_M_bitsAt_22 : decode prog_10_method_17_code 22 = .ok (.iaload, 1) := by decide +kernel
theorem d_M_bitsAt_23 : decode prog_10_method_17_code 23 = .ok (.iadd, 1) := by decide +kernel
theorem d_M_bitsAt_24 : decode prog_10_method_17_code 24 = .ok (.istore_n 3, 1) := by decide +kernel
theorem d_M_bitsAt_25 : decode prog_10_method_17_code 25 = .ok (.iinc 4 1, 3) := by decide +kernel
theorem d_M_bitsAt_28 : decode prog_10_method_17_code 28 = .ok (.goto (-23), 3) := by decide +kernel
theorem d_M_bitsAt_31 : decode prog_10_method_17_code 31 = .ok (.iload_n 3, 1) := by decide +kernel
theorem d_M_bitsAt_32 : decode prog_10_method_17_code 32 = .ok (.ireturn, 1) := by decide +kernel
theorem d_M_taken_0 : decode prog_10_method_19_code 0 = .ok (.aload_n 0, 1) := by decide +kernel
theorem d_M_taken_1 : decode prog_10_method_19_code 1 = .ok (.getfield 19, 3) := by decide +kernel
theorem d_M_taken_4 : decode prog_10_method_19_code 4 = .ok (.iload_n 1, 1) := by decide +kernel
theorem d_M_taken_5 : decode prog_10_method_19_code 5 = .ok (.iaload, 1) := by decide +kernel
theorem d_M_taken_6 : decode prog_10_method_19_code 6 = .ok (.istore_n 2, 1) := by decide +kernel
theorem d_M_taken_7 : decode prog_10_method_19_code 7 = .ok (.iload_n 2, 1) := by decide +kernel
theorem d_M_taken_8 : decode prog_10_method_19_code 8 = .ok (.ifCond .ge 7, 3) := by decide +kernel
theorem d_M_taken_11 : decode prog_10_method_19_code 11 = .ok (.iconst 1, 1) := by decide +kernel
theorem d_M_taken_12 : decode prog_10_method_19_code 12 = .ok (.goto 4, 3) := by decide +kernel
theorem d_M_taken_15 : decode prog_10_method_19_code 15 = .ok (.iconst 0, 1) := by decide +kernel
theorem d_M_taken_16 : decode prog_10_method_19_code 16 = .ok (.istore_n 3, 1) := by decide +kernel
theorem d_M_taken_17 : decode prog_10_method_19_code 17 = .ok (.iload_n 3, 1) := by decide +kernel
theorem d_M_taken_18 : decode prog_10_method_19_code 18 = .ok (.ifCond .ne 32, 3) := by decide +kernel
theorem d_M_taken_21 : decode prog_10_method_19_code 21 = .ok (.aload_n 0, 1) := by decide +kernel
theorem d_M_taken_22 : decode prog_10_method_19_code 22 = .ok (.getfield 16, 3) := by decide +kernel
theorem d_M_taken_25 : decode prog_10_method_19_code 25 = .ok (.iconst 2, 1) := by decide +kernel
theorem d_M_taken_26 : decode prog_10_method_19_code 26 = .ok (.iload_n 2, 1) := by decide +kernel
theorem d_M_taken_27 : decode prog_10_method_19_code 27 = .ok (.imul, 1) := by decide +kernel
theorem d_M_taken_28 : decode prog_10_method_19_code 28 = .ok (.aload_n 0, 1) := by decide +kernel
theorem d_M_taken_29 : decode prog_10_method_19_code 29 = .ok (.getfield 72, 3) := by decide +kernel
theorem d_M_taken_32 : decode prog_10_method_19_code 32 = .ok (.ifCond .eq 7, 3) := by decide +kernel
theorem d_M_taken_35 : decode prog_10_method_19_code 35 = .ok (.iconst 1, 1) := by decide +kernel
theorem d_M_taken_36 : decode prog_10_method_19_code 36 = .ok (.goto 4, 3) := by decide +kernel
theorem d_M_taken_39 : decode prog_10_method_19_code 39 = .ok (.iconst 0, 1) := by decide +kernel
theorem d_M_taken_40 : decode prog_10_method_19_code 40 = .ok (.iadd, 1) := by decide +kernel
theorem d_M_taken_41 : decode prog_10_method_19_code 41 = .ok (.iaload, 1) := by decide +kernel
theorem d_M_taken_42 : decode prog_10_method_19_code 42 = .ok (.iload_n 1, 1) := by decide +kernel
theorem d_M_taken_43 : decode prog_10_method_19_code 43 = .ok (.if_icmp .ne 7, 3) := by decide +kernel
theorem d_M_taken_46 : decode prog_10_method_19_code 46 = .ok (.iconst 1, 1) := by decide +kernel
theorem d_M_taken_47 : decode prog_10_method_19_code 47 = .ok (.goto 4, 3) := by decide +kernel
theorem d_M_taken_50 : decode prog_10_method_19_code 50 = .ok (.iconst 0, 1) := by decide +kernel
theorem d_M_taken_51 : decode prog_10_method_19_code 51 = .ok (.istore 4, 2) := by decide +kernel
theorem d_M_taken_53 : decode prog_10_method_19_code 53 = .ok (.iload_n 3, 1) := by decide +kernel
theorem d_M_taken_54 : decode prog_10_method_19_code 54 = .ok (.ifCond .ne 34, 3) := by decide +kernel
theorem d_M_taken_57 : decode prog_10_method_19_code 57 = .ok (.iload 4, 2) := by decide +kernel
theorem d_M_taken_59 : decode prog_10_method_19_code 59 = .ok (.ifCond .ne 29, 3) := by decide +kernel
theorem d_M_taken_62 : decode prog_10_method_19_code 62 = .ok (.aload_n 0, 1) := by decide +kernel
theorem d_M_taken_63 : decode prog_10_method_19_code 63 = .ok (.getfield 75, 3) := by decide +kernel
theorem d_M_taken_66 : decode prog_10_method_19_code 66 = .ok (.ifCond .eq 22, 3) := by decide +kernel
theorem d_M_taken_69 : decode prog_10_method_19_code 69 = .ok (.aload_n 0, 1) := by decide +kernel
theorem d_M_taken_70 : decode prog_10_method_19_code 70 = .ok (.aload_n 0, 1) := by decide +kernel
theorem d_M_taken_71 : decode prog_10_method_19_code 71 = .ok (.getfield 72, 3) := by decide +kernel
theorem d_M_taken_74 : decode prog_10_method_19_code 74 = .ok (.ifCond .ne 7, 3) := by decide +kernel
theorem d_M_taken_77 : decode prog_10_method_19_code 77 = .ok (.iconst 1, 1) := by decide +kernel
theorem d_M_taken_78 : decode prog_10_method_19_code 78 = .ok (.goto 4, 3) := by decide +kernel
theorem d_M_taken_81 : decode prog_10_method_19_code 81 = .ok (.iconst 0, 1) := by decide +kernel
theorem d_M_taken_82 : decode prog_10_method_19_code 82 = .ok (.putfield 72, 3) := by decide +kernel
theorem d_M_taken_85 : decode prog_10_method_19_code 85 = .ok (.iconst 1, 1) := by decide +kernel
theorem d_M_taken_86 : decode prog_10_method_19_code 86 = .ok (.istore 4, 2) := by decide +kernel
theorem d_M_taken_88 : decode prog_10_method_19_code 88 = .ok (.aload_n 0, 1) := by decide +kernel
theorem d_M_taken_89 : decode prog_10_method_19_code 89 = .ok (.iconst 0, 1) := by decide +kernel
theorem d_M_taken_90 : decode prog_10_method_19_code 90 = .ok (.putfield 75, 3) := by decide +kernel
theorem d_M_taken_93 : decode prog_10_method_19_code 93 = .ok (.aload_n 0, 1) := by decide +kernel
theorem d_M_taken_94 : decode prog_10_method_19_code 94 = .ok (.iload_n 1, 1) := by decide +kernel
theorem d_M_taken_95 : decode prog_10_method_19_code 95 = .ok (.aload_n 0, 1) := by decide +kernel
theorem d_M_taken_96 : decode prog_10_method_19_code 96 = .ok (.getfield 72, 3) := by decide +kernel
theorem d_M_taken_99 : decode prog_10_method_19_code 99 = .ok (.invokestatic 113, 3) := by decide +kernel
theorem d_M_taken_102 : decode prog_10_method_19_code 102 = .ok (.putfield 72, 3) := by decide +kernel
theorem d_M_taken_105 : decode prog_10_method_19_code 105 = .ok (.iload_n 3, 1) := by decide +kernel
theorem d_M_taken_106 : decode prog_10_method_19_code 106 = .ok (.ifCond .ne 8, 3) := by decide +kernel
theorem d_M_taken_109 : decode prog_10_method_19_code 109 = .ok (.iload 4, 2) := by decide +kernel
theorem d_M_taken_111 : decode prog_10_method_19_code 111 = .ok (.ifCond .ne 105, 3) := by decide +kernel
theorem d_M_taken_114 : decode prog_10_method_19_code 114 = .ok (.aload_n 0, 1) := by decide +kernel
theorem d_M_taken_115 : decode prog_10_method_19_code 115 = .ok (.getfield 41, 3) := by decide +kernel
theorem d_M_taken_118 : decode prog_10_method_19_code 118 = .ok (.iconst 0, 1) := by decide +kernel
theorem d_M_taken_119 : decode prog_10_method_19_code 119 = .ok (.iload_n 3, 1) := by decide +kernel
theorem d_M_taken_120 : decode prog_10_method_19_code 120 = .ok (.ifCond .eq 14, 3) := by decide +kernel
theorem d_M_taken_123 : decode prog_10_method_19_code 123 = .ok (.aload_n 0, 1) := by decide +kernel
theorem d_M_taken_124 : decode prog_10_method_19_code 124 = .ok (.getfield 41, 3) := by decide +kernel
theorem d_M_taken_127 : decode prog_10_method_19_code 127 = .ok (.iconst 0, 1) := by decide +kernel
theorem d_M_taken_128 : decode prog_10_method_19_code 128 = .ok (.iaload, 1) := by decide +kernel
theorem d_M_taken_129 : decode prog_10_method_19_code 129 = .ok (.iconst 1, 1) := by decide +kernel
theorem d_M_taken_130 : decode prog_10_method_19_code 130 = .ok (.iadd, 1) := by decide +kernel
theorem d_M_taken_131 : decode prog_10_method_19_code 131 = .ok (.goto 9, 3) := by decide +kernel
theorem d_M_taken_134 : decode prog_10_method_19_code 134 = .ok (.aload_n 0, 1) := by decide +kernel
theorem d_M_taken_135 : decode prog_10_method_19_code 135 = .ok (.getfield 41, 3) := by decide +kernel
theorem d_M_taken_138 : decode prog_10_method_19_code 138 = .ok (.iconst 0, 1) := by decide +kernel
theorem d_M_taken_139 : decode prog_10_method_19_code 139 = .ok (.iaload, 1) := by decide +kernel
theorem d_M_taken_140 : decode prog_10_method_19_code 140 = .ok (.iastore, 1) := by decide +kernel
theorem d_M_taken_141 : decode prog_10_method_19_code 141 = .ok (.aload_n 0, 1) := by decide +kernel
theorem d_M_taken_142 : decode prog_10_method_19_code 142 = .ok (.iload_n 3, 1) := by decide +kernel
theorem d_M_taken_143 : decode prog_10_method_19_code 143 = .ok (.ifCond .eq 10, 3) := by decide +kernel
theorem d_M_taken_146 : decode prog_10_method_19_code 146 = .ok (.aload_n 0, 1) := by decide +kernel
theorem d_M_taken_147 : decode prog_10_method_19_code 147 = .ok (.getfield 65, 3) := by decide +kernel
theorem d_M_taken_150 : decode prog_10_method_19_code 150 = .ok (.goto 9, 3) := by decide +kernel
theorem d_M_taken_153 : decode prog_10_method_19_code 153 = .ok (.aload_n 0, 1) := by decide +kernel
theorem d_M_taken_154 : decode prog_10_method_19_code 154 = .ok (.getfield 65, 3) := by decide +kernel
theorem d_M_taken_157 : decode prog_10_method_19_code 157 = .ok (.iconst 1, 1) := by decide +kernel
theorem d_M_taken_158 : decode prog_10_method_19_code 158 = .ok (.iadd, 1) := by decide +kernel
theorem d_M_taken_159 : decode prog_10_method_19_code 159 = .ok (.putfield 65, 3) := by decide +kernel
theorem d_M_taken_162 : decode prog_10_method_19_code 162 = .ok (.aload_n 0, 1) := by decide +kernel
theorem d_M_taken_163 : decode prog_10_method_19_code 163 = .ok (.iconst 0, 1) := by decide +kernel
theorem d_M_taken_164 : decode prog_10_method_19_code 164 = .ok (.putfield 78, 3) := by decide +kernel
theorem d_M_taken_167 : decode prog_10_method_19_code 167 = .ok (.aload_n 0, 1) := by decide +kernel
theorem d_M_taken_168 : decode prog_10_method_19_code 168 = .ok (.getfield 35, 3) := by decide +kernel
theorem d_M_taken_171 : decode prog_10_method_19_code 171 = .ok (.iconst 0, 1) := by decide +kernel
theorem d_M_taken_172 : decode prog_10_method_19_code 172 = .ok (.dup2, 1) := by decide +kernel
theorem d_M_taken_173 : decode prog_10_method_19_code 173 = .ok (.iaload, 1) := by decide +kernel
theorem d_M_taken_174 : decode prog_10_method_19_code 174 = .ok (.iconst 1, 1) := by decide +kernel
theorem d_M_taken_175 : decode prog_10_method_19_code 175 = .ok (.iadd, 1) := by decide +kernel
theorem d_M_taken_176 : decode prog_10_method_19_code 176 = .ok (.iastore, 1) := by decide +kernel
theorem d_M_taken_177 : decode prog_10_method_19_code 177 = .ok (.aload_n 0, 1) := by decide +kernel
theorem d_M_taken_178 : decode prog_10_method_19_code 178 = .ok (.getfield 35, 3) := by decide +kernel
theorem d_M_taken_181 : decode prog_10_method_19_code 181 = .ok (.iconst 0, 1) := by decide +kernel
theorem d_M_taken_182 : decode prog_10_method_19_code 182 = .ok (.iaload, 1) := by decide +kernel
theorem d_M_taken_183 : decode prog_10_method_19_code 183 = .ok (.iconst 4, 1) := by decide +kernel
theorem d_M_taken_184 : decode prog_10_method_19_code 184 = .ok (.if_icmp .ne 17, 3) := by decide +kernel
theorem d_M_taken_187 : decode prog_10_method_19_code 187 = .ok (.aload_n 0, 1) := by decide +kernel
theorem d_M_taken_188 : decode prog_10_method_19_code 188 = .ok (.getfield 35, 3) := by decide +kernel
theorem d_M_taken_191 : decode prog_10_method_19_code 191 = .ok (.iconst 0, 1) := by decide +kernel
theorem d_M_taken_192 : decode prog_10_method_19_code 192 = .ok (.iconst 0, 1) := by decide +kernel
theorem d_M_taken_193 : decode prog_10_method_19_code 193 = .ok (.iastore, 1) := by decide +kernel
theorem d_M_taken_194 : decode prog_10_method_19_code 194 = .ok (.aload_n 0, 1) := by decide +kernel
theorem d_M_taken_195 : decode prog_10_method_19_code 195 = .ok (.getfield 31, 3) := by decide +kernel
theorem d_M_taken_198 : decode prog_10_method_19_code 198 = .ok (.iconst 0, 1) := by decide +kernel
theorem d_M_taken_199 : decode prog_10_method_19_code 199 = .ok (.iconst 0, 1) := by decide +kernel
theorem d_M_taken_200 : decode prog_10_method_19_code 200 = .ok (.bastore, 1) := by decide +kernel
theorem d_M_taken_201 : decode prog_10_method_19_code 201 = .ok (.iload_n 3, 1) := by decide +kernel
theorem d_M_taken_202 : decode prog_10_method_19_code 202 = .ok (.ifCond .eq 8, 3) := by decide +kernel
theorem d_M_taken_205 : decode prog_10_method_19_code 205 = .ok (.bipush (-2), 2) := by decide +kernel
theorem d_M_taken_207 : decode prog_10_method_19_code 207 = .ok (.goto 8, 3) := by decide +kernel
theorem d_M_taken_210 : decode prog_10_method_19_code 210 = .ok (.sipush 512, 3) := by decide +kernel
theorem d_M_taken_213 : decode prog_10_method_19_code 213 = .ok (.iload_n 2, 1) := by decide +kernel
theorem d_M_taken_214 : decode prog_10_method_19_code 214 = .ok (.iadd, 1) := by decide +kernel
theorem d_M_taken_215 : decode prog_10_method_19_code 215 = .ok (.ireturn, 1) := by decide +kernel
theorem d_M_taken_216 : decode prog_10_method_19_code 216 = .ok (.aload_n 0, 1) := by decide +kernel
theorem d_M_taken_217 : decode prog_10_method_19_code 217 = .ok (.dup, 1) := by decide +kernel
theorem d_M_taken_218 : decode prog_10_method_19_code 218 = .ok (.getfield 78, 3) := by decide +kernel
theorem d_M_taken_221 : decode prog_10_method_19_code 221 = .ok (.iconst 1, 1) := by decide +kernel
theorem d_M_taken_222 : decode prog_10_method_19_code 222 = .ok (.iadd, 1) := by decide +kernel
theorem d_M_taken_223 : decode prog_10_method_19_code 223 = .ok (.putfield 78, 3) := by decide +kernel
theorem d_M_taken_226 : decode prog_10_method_19_code 226 = .ok (.aload_n 0, 1) := by decide +kernel
theorem d_M_taken_227 : decode prog_10_method_19_code 227 = .ok (.getfield 78, 3) := by decide +kernel
theorem d_M_taken_230 : decode prog_10_method_19_code 230 = .ok (.iconst 4, 1) := by decide +kernel
theorem d_M_taken_231 : decode prog_10_method_19_code 231 = .ok (.if_icmp .ne 35, 3) := by decide +kernel
theorem d_M_taken_234 : decode prog_10_method_19_code 234 = .ok (.aload_n 0, 1) := by decide +kernel
theorem d_M_taken_235 : decode prog_10_method_19_code 235 = .ok (.iconst 0, 1) := by decide +kernel
theorem d_M_taken_236 : decode prog_10_method_19_code 236 = .ok (.putfield 78, 3) := by decide +kernel
theorem d_M_taken_239 : decode prog_10_method_19_code 239 = .ok (.aload_n 0, 1) := by decide +kernel
theorem d_M_taken_240 : decode prog_10_method_19_code 240 = .ok (.getfield 35, 3) := by decide +kernel
theorem d_M_taken_243 : decode prog_10_method_19_code 243 = .ok (.iconst 0, 1) := by decide +kernel
theorem d_M_taken_244 : decode prog_10_method_19_code 244 = .ok (.aload_n 0, 1) := by decide +kernel
theorem d_M_taken_245 : decode prog_10_method_19_code 245 = .ok (.getfield 35, 3) := by decide +kernel
theorem d_M_taken_248 : decode prog_10_method_19_code 248 = .ok (.iconst 0, 1) := by decide +kernel
theorem d_M_taken_249 : decode prog_10_method_19_code 249 = .ok (.iaload, 1) := by decide +kernel
theorem d_M_taken_250 : decode prog_10_method_19_code 250 = .ok (.ifCond .le 14, 3) := by decide +kernel
theorem d_M_taken_253 : decode prog_10_method_19_code 253 = .ok (.aload_n 0, 1) := by decide +kernel
theorem d_M_taken_254 : decode prog_10_method_19_code 254 = .ok (.getfield 35, 3) := by decide +kernel
theorem d_M_taken_257 : decode prog_10_method_19_code 257 = .ok (.iconst 0, 1) := by decide +kernel
theorem d_M_taken_258 : decode prog_10_method_19_code 258 = .ok (.iaload, 1) := by decide +kernel
theorem d_M_taken_259 : decode prog_10_method_19_code 259 = .ok (.iconst 1, 1) := by decide +kernel
theorem d_M_taken_260 : decode prog_10_method_19_code 260 = .ok (.isub, 1) := by decide +kernel
theorem d_M_taken_261 : decode prog_10_method_19_code 261 = .ok (.goto 4, 3) := by decide +kernel
theorem d_M_taken_264 : decode prog_10_method_19_code 264 = .ok (.iconst 0, 1) := by decide +kernel
theorem d_M_taken_265 : decode prog_10_method_19_code 265 = .ok (.iastore, 1) := by decide +kernel
theorem d_M_taken_266 : decode prog_10_method_19_code 266 = .ok (.iload_n 2, 1) := by decide +kernel
theorem d_M_taken_267 : decode prog_10_method_19_code 267 = .ok (.ireturn, 1) := by decide +kernel
theorem d_M_put_0 : decode prog_10_method_21_code 0 = .ok (.aload_n 0, 1) := by decide +kernel
theorem d_M_put_1 : decode prog_10_method_21_code 1 = .ok (.aload_n 0, 1) := by decide +kernel
theorem d_M_put_2 : decode prog_10_method_21_code 2 = .ok (.getfield 25, 3) := by decide +kernel
theorem d_M_put_5 : decode prog_10_method_21_code 5 = .ok (.iconst 1, 1) := by decide +kernel
theorem d_M_put_6 : decode prog_10_method_21_code 6 = .ok (.iaload, 1) := by decide +kernel
theorem d_M_put_7 : decode prog_10_method_21_code 7 = .ok (.bipush 66, 2) := by decide +kernel
theorem d_M_put_9 : decode prog_10_method_21_code 9 = .ok (.iadd, 1) := by decide +kernel
theorem d_M_put_10 : decode prog_10_method_21_code 10 = .ok (.sipush 2640, 3) := by decide +kernel
theorem d_M_put_13 : decode prog_10_method_21_code 13 = .ok (.if_icmp .le 7, 3) := by decide +kernel
theorem d_M_put_16 : decode prog_10_method_21_code 16 = .ok (.iconst 1, 1) := by decide +kernel
theorem d_M_put_17 : decode prog_10_method_21_code 17 = .ok (.goto 4, 3) := by decide +kernel
theorem d_M_put_20 : decode prog_10_method_21_code 20 = .ok (.iconst 0, 1) := by decide +kernel
theorem d_M_put_21 : decode prog_10_method_21_code 21 = .ok (.invokevirtual 102, 3) := by decide +kernel
theorem d_M_put_24 : decode prog_10_method_21_code 24 = .ok (.ifCond .eq 5, 3) := by decide +kernel
theorem d_M_put_27 : decode prog_10_method_21_code 27 = .ok (.iconst 0, 1) := by decide +kernel
theorem d_M_put_28 : decode prog_10_method_21_code 28 = .ok (.ireturn, 1) := by decide +kernel
theorem d_M_put_29 : decode prog_10_method_21_code 29 = .ok (.aload_n 0, 1) := by decide +kernel
theorem d_M_put_30 : decode prog_10_method_21_code 30 = .ok (.iconst 1, 1) := by decide +kernel
theorem d_M_put_31 : decode prog_10_method_21_code 31 = .ok (.iload_n 3, 1) := by decide +kernel
theorem d_M_put_32 : decode prog_10_method_21_code 32 = .ok (.ifCond .eq 7, 3) := by decide +kernel
theorem d_M_put_35 : decode prog_10_method_21_code 35 = .ok (.iconst 1, 1) := by decide +kernel
theorem d_M_put_36 : decode prog_10_method_21_code 36 = .ok (.goto 4, 3) := by decide +kernel
theorem d_M_put_39 : decode prog_10_method_21_code 39 = .ok (.iconst 0, 1) := by decide +kernel
theorem d_M_put_40 : decode prog_10_method_21_code 40 = .ok (.invokevirtual 109, 3) := by decide +kernel
theorem d_M_put_43 : decode prog_10_method_21_code 43 = .ok (.aload_n 0, 1) := by decide +kernel
theorem d_M_put_44 : decode prog_10_method_21_code 44 = .ok (.iconst 1, 1) := by decide +kernel
theorem d_M_put_45 : decode prog_10_method_21_code 45 = .ok (.iload_n 3, 1) := by decide +kernel
theorem d_M_put_46 : decode prog_10_method_21_code 46 = .ok (.ifCond .eq 7, 3) := by decide +kernel
theorem d_M_put_49 : decode prog_10_method_21_code 49 = .ok (.iconst 0, 1) := by decide +kernel
theorem d_M_put_50 : decode prog_10_method_21_code 50 = .ok (.goto 4, 3) := by decide +kernel
theorem d_M_put_53 : decode prog_10_method_21_code 53 = .ok (.iconst 1, 1) := by decide +kernel
theorem d_M_put_54 : decode prog_10_method_21_code 54 = .ok (.invokevirtual 109, 3) := by decide +kernel
theorem d_M_put_57 : decode prog_10_method_21_code 57 = .ok (.iconst 0, 1) := by decide +kernel
theorem d_M_put_58 : decode prog_10_method_21_code 58 = .ok (.istore 4, 2) := by decide +kernel
theorem d_M_put_60 : decode prog_10_method_21_code 60 = .ok (.iload 4, 2) := by decide +kernel
theorem d_M_put_62 : decode prog_10_method_21_code 62 = .ok (.bipush 64, 2) := by decide +kernel
theorem d_M_put_64 : decode prog_10_method_21_code 64 = .ok (.if_icmp .ge 50, 3) := by decide +kernel
theorem d_M_put_67 : decode prog_10_method_21_code 67 = .ok (.lload_n 1, 1) := by decide +kernel
theorem d_M_put_68 : decode prog_10_method_21_code 68 = .ok (.iload 4, 2) := by decide +kernel
theorem d_M_put_70 : decode prog_10_method_21_code 70 = .ok (.lshr, 1) := by decide +kernel
theorem d_M_put_71 : decode prog_10_method_21_code 71 = .ok (.lconst 1, 1) := by decide +kernel
theorem d_M_put_72 : decode prog_10_method_21_code 72 = .ok (.land, 1) := by decide +kernel
theorem d_M_put_73 : decode prog_10_method_21_code 73 = .ok (.l2i, 1) := by decide +kernel
theorem d_M_put_74 : decode prog_10_method_21_code 74 = .ok (.aload_n 0, 1) := by decide +kernel
theorem d_M_put_75 : decode prog_10_method_21_code 75 = .ok (.getfield 44, 3) := by decide +kernel
theorem d_M_put_78 : decode prog_10_method_21_code 78 = .ok (.bipush 38, 2) := by decide +kernel
theorem d_M_put_80 : decode prog_10_method_21_code 80 = .ok (.iaload, 1) := by decide +kernel
theorem d_M_put_81 : decode prog_10_method_21_code 81 = .ok (.ixor, 1) := by decide +kernel
theorem d_M_put_82 : decode prog_10_method_21_code 82 = .ok (.aload_n 0, 1) := by decide +kernel
theorem d_M_put_83 : decode prog_10_method_21_code 83 = .ok (.getfield 44, 3) := by decide +kernel
theorem d_M_put_86 : decode prog_10_method_21_code 86 = .ok (.bipush 57, 2) := by decide +kernel
theorem d_M_put_88 : decode prog_10_method_21_code 88 = .ok (.iaload, 1) := by decide +kernel
theorem d_M_put_89 : decode prog_10_method_21_code 89 = .ok (.ixor, 1) := by decide +kernel
theorem d_M_put_90 : decode prog_10_method_21_code 90 = .ok (.istore 5, 2) := by decide +kernel
theorem d_M_put_92 : decode prog_10_method_21_code 92 = .ok (.aload_n 0, 1) := by decide +kernel
theorem d_M_put_93 : decode prog_10_method_21_code 93 = .ok (.iconst 1, 1) := by decide +kernel
theorem d_M_put_94 : decode prog_10_method_21_code 94 = .ok (.iload 5, 2) := by decide +kernel
theorem d_M_put_96 : decode prog_10_method_21_code 96 = .ok (.invokevirtual 109, 3) := by decide +kernel
theorem d_M_put_99 : decode prog_10_method_21_code 99 = .ok (.aload_n 0, 1) := by decide +kernel
theorem d_M_put_100 : decode prog_10_method_21_code 100 = .ok (.getfield 44, 3) := by decide +kernel
theorem d_M_put_103 : decode prog_10_method_21_code 103 = .ok (.iload 5, 2) := by decide +kernel
theorem d_M_put_105 : decode prog_10_method_21_code 105 = .ok (.invokestatic 123, 3) := by decide +kernel
theorem d_M_put_108 : decode prog_10_method_21_code 108 = .ok (.iinc 4 1, 3) := by decide +kernel
theorem d_M_put_111 : decode prog_10_method_21_code 111 = .ok (.goto (-51), 3) := by decide +kernel
theorem d_M_put_114 : decode prog_10_method_21_code 114 = .ok (.aload_n 0, 1) := by decide +kernel
theorem d_M_put_115 : decode prog_10_method_21_code 115 = .ok (.getfield 25, 3) := by decide +kernel
theorem d_M_put_118 : decode prog_10_method_21_code 118 = .ok (.iconst 1, 1) := by decide +kernel
theorem d_M_put_119 : decode prog_10_method_21_code 119 = .ok (.iaload, 1) := by decide +kernel
theorem d_M_put_120 : decode prog_10_method_21_code 120 = .ok (.ireturn, 1) := by decide +kernel
theorem d_M_remember_0 : decode prog_10_method_20_code 0 = .ok (.bipush 57, 2) := by decide +kernel
theorem d_M_remember_2 : decode prog_10_method_20_code 2 = .ok (.istore_n 2, 1) := by decide +kernel
theorem d_M_remember_3 : decode prog_10_method_20_code 3 = .ok (.iload_n 2, 1) := by decide +kernel
theorem d_M_remember_4 : decode prog_10_method_20_code 4 = .ok (.ifCond .le 17, 3) := by decide +kernel
theorem d_M_remember_7 : decode prog_10_method_20_code 7 = .ok (.aload_n 0, 1) := by decide +kernel
theorem d_M_remember_8 : decode prog_10_method_20_code 8 = .ok (.iload_n 2, 1) := by decide +kernel
theorem d_M_remember_9 : decode prog_10_method_20_code 9 = .ok (.aload_n 0, 1) := by decide +kernel
theorem d_M_remember_10 : decode prog_10_method_20_code 10 = .ok (.iload_n 2, 1) := by decide +kernel
theorem d_M_remember_11 : decode prog_10_method_20_code 11 = .ok (.iconst 1, 1) := by decide +kernel
theorem d_M_remember_12 : decode prog_10_method_20_code 12 = .ok (.isub, 1) := by decide +kernel
theorem d_M_remember_13 : decode prog_10_method_20_code 13 = .ok (.iaload, 1) := by decide +kernel
theorem d_M_remember_14 : decode prog_10_method_20_code 14 = .ok (.iastore, 1) := by decide +kernel
theorem d_M_remember_15 : decode prog_10_method_20_code 15 = .ok (.iinc 2 (-1), 3) := by decide +kernel
theorem d_M_remember_18 : decode prog_10_method_20_code 18 = .ok (.goto (-15), 3) := by decide +kernel
theorem d_M_remember_21 : decode prog_10_method_20_code 21 = .ok (.aload_n 0, 1) := by decide +kernel
theorem d_M_remember_22 : decode prog_10_method_20_code 22 = .ok (.iconst 0, 1) := by decide +kernel
theorem d_M_remember_23 : decode prog_10_method_20_code 23 = .ok (.iload_n 1, 1) := by decide +kernel
theorem d_M_remember_24 : decode prog_10_method_20_code 24 = .ok (.iastore, 1) := by decide +kernel
theorem d_M_remember_25 : decode prog_10_method_20_code 25 = .ok (.return_, 1) := by decide +kernel
theorem d_M_take_0 : decode prog_10_method_24_code 0 = .ok (.aload_n 0, 1) := by decide +kernel
theorem d_M_take_1 : decode prog_10_method_24_code 1 = .ok (.iconst 0, 1) := by decide +kernel
theorem d_M_take_2 : decode prog_10_method_24_code 2 = .ok (.putfield 61, 3) := by decide +kernel
theorem d_M_take_5 : decode prog_10_method_24_code 5 = .ok (.aload_n 0, 1) := by decide +kernel
theorem d_M_take_6 : decode prog_10_method_24_code 6 = .ok (.getfield 25, 3) := by decide +kernel
theorem d_M_take_9 : decode prog_10_method_24_code 9 = .ok (.iconst 1, 1) := by decide +kernel
theorem d_M_take_10 : decode prog_10_method_24_code 10 = .ok (.iaload, 1) := by decide +kernel
theorem d_M_take_11 : decode prog_10_method_24_code 11 = .ok (.aload_n 0, 1) := by decide +kernel
theorem d_M_take_12 : decode prog_10_method_24_code 12 = .ok (.getfield 28, 3) := by decide +kernel
theorem d_M_take_15 : decode prog_10_method_24_code 15 = .ok (.iconst 1, 1) := by decide +kernel
theorem d_M_take_16 : decode prog_10_method_24_code 16 = .ok (.iaload, 1) := by decide +kernel
theorem d_M_take_17 : decode prog_10_method_24_code 17 = .ok (.isub, 1) := by decide +kernel
theorem d_M_take_18 : decode prog_10_method_24_code 18 = .ok (.bipush 66, 2) := by decide +kernel
theorem d_M_take_20 : decode prog_10_method_24_code 20 = .ok (.if_icmp .ge 5, 3) := by decide +kernel
theorem d_M_take_23 : decode prog_10_method_24_code 23 = .ok (.iconst (-1), 1) := by decide +kernel
theorem d_M_take_24 : decode prog_10_method_24_code 24 = .ok (.ireturn, 1) := by decide +kernel
theorem d_M_take_25 : decode prog_10_method_24_code 25 = .ok (.sipush 2640, 3) := by decide +kernel
theorem d_M_take_28 : decode prog_10_method_24_code 28 = .ok (.aload_n 0, 1) := by decide +kernel
theorem d_M_take_29 : decode prog_10_method_24_code 29 = .ok (.getfield 28, 3) := by decide +kernel
theorem d_M_take_32 : decode prog_10_method_24_code 32 = .ok (.iconst 1, 1) := by decide +kernel
theorem d_M_take_33 : decode prog_10_method_24_code 33 = .ok (.iaload, 1) := by decide +kernel
theorem d_M_take_34 : decode prog_10_method_24_code 34 = .ok (.iadd, 1) := by decide +kernel
theorem d_M_take_35 : decode prog_10_method_24_code 35 = .ok (.istore_n 1, 1) := by decide +kernel
theorem d_M_take_36 : decode prog_10_method_24_code 36 = .ok (.aload_n 0, 1) := by decide +kernel
theorem d_M_take_37 : decode prog_10_method_24_code 37 = .ok (.getfield 22, 3) := by decide +kernel
theorem d_M_take_40 : decode prog_10_method_24_code 40 = .ok (.iload_n 1, 1) := by decide +kernel
theorem d_M_take_41 : decode prog_10_method_24_code 41 = .ok (.iaload, 1) := by decide +kernel
theorem d_M_take_42 : decode prog_10_method_24_code 42 = .ok (.istore_n 2, 1) := by decide +kernel
theorem d_M_take_43 : decode prog_10_method_24_code 43 = .ok (.iload_n 2, 1) := by decide +kernel
theorem d_M_take_44 : decode prog_10_method_24_code 44 = .ok (.aload_n 0, 1) := by decide +kernel
theorem d_M_take_45 : decode prog_10_method_24_code 45 = .ok (.getfield 22, 3) := by decide +kernel
theorem d_M_take_48 : decode prog_10_method_24_code 48 = .ok (.iload_n 1, 1) := by decide +kernel
theorem d_M_take_49 : decode prog_10_method_24_code 49 = .ok (.iconst 1, 1) := by decide +kernel
theorem d_M_take_50 : decode prog_10_method_24_code 50 = .ok (.iadd, 1) := by decide +kernel
theorem d_M_take_51 : decode prog_10_method_24_code 51 = .ok (.iaload, 1) := by decide +kernel
theorem d_M_take_52 : decode prog_10_method_24_code 52 = .ok (.if_icmp .eq 7, 3) := by decide +kernel
theorem d_M_take_55 : decode prog_10_method_24_code 55 = .ok (.iconst 1, 1) := by decide +kernel
theorem d_M_take_56 : decode prog_10_method_24_code 56 = .ok (.goto 4, 3) := by decide +kernel
theorem d_M_take_59 : decode prog_10_method_24_code 59 = .ok (.iconst 0, 1) := by decide +kernel
theorem d_M_take_60 : decode prog_10_method_24_code 60 = .ok (.istore_n 3, 1) := by decide +kernel
theorem d_M_take_61 : decode prog_10_method_24_code 61 = .ok (.aload_n 0, 1) := by decide +kernel
theorem d_M_take_62 : decode prog_10_method_24_code 62 = .ok (.getfield 31, 3) := by decide +kernel
theorem d_M_take_65 : decode prog_10_method_24_code 65 = .ok (.iconst 1, 1) := by decide +kernel
theorem d_M_take_66 : decode prog_10_method_24_code 66 = .ok (.baload, 1) := by decide +kernel
theorem d_M_take_67 : decode prog_10_method_24_code 67 = .ok (.ifCond .ne 37, 3) := by decide +kernel
theorem d_M_take_70 : decode prog_10_method_24_code 70 = .ok (.iload_n 3, 1) := by decide +kernel
theorem d_M_take_71 : decode prog_10_method_24_code 71 = .ok (.ifCond .ne 33, 3) := by decide +kernel
theorem d_M_take_74 : decode prog_10_method_24_code 74 = .ok (.aload_n 0, 1) := by decide +kernel
theorem d_M_take_75 : decode prog_10_method_24_code 75 = .ok (.getfield 28, 3) := by decide +kernel
theorem d_M_take_78 : decode prog_10_method_24_code 78 = .ok (.iconst 1, 1) := by decide +kernel
theorem d_M_take_79 : decode prog_10_method_24_code 79 = .ok (.dup2, 1) := by decide +kernel
theorem d_M_take_80 : decode prog_10_method_24_code 80 = .ok (.iaload, 1) := by decide +kernel
theorem d_M_take_81 : decode prog_10_method_24_code 81 = .ok (.iconst 1, 1) := by decide +kernel
theorem d_M_take_82 : decode prog_10_method_24_code 82 = .ok (.iadd, 1) := by decide +kernel
theorem d_M_take_83 : decode prog_10_method_24_code 83 = .ok (.iastore, 1) := by decide +kernel
theorem d_M_take_84 : decode prog_10_method_24_code 84 = .ok (.aload_n 0, 1) := by decide +kernel
theorem d_M_take_85 : decode prog_10_method_24_code 85 = .ok (.getfield 38, 3) := by decide +kernel
theorem d_M_take_88 : decode prog_10_method_24_code 88 = .ok (.iconst 1, 1) := by decide +kernel
theorem d_M_take_89 : decode prog_10_method_24_code 89 = .ok (.dup2, 1) := by decide +kernel
theorem d_M_take_90 : decode prog_10_method_24_code 90 = .ok (.iaload, 1) := by decide +kernel
theorem d_M_take_91 : decode prog_10_method_24_code 91 = .ok (.iconst 1, 1) := by decide +kernel
theorem d_M_take_92 : decode prog_10_method_24_code 92 = .ok (.iadd, 1) := by decide +kernel
theorem d_M_take_93 : decode prog_10_method_24_code 93 = .ok (.iastore, 1) := by decide +kernel
theorem d_M_take_94 : decode prog_10_method_24_code 94 = .ok (.aload_n 0, 1) := by decide +kernel
theorem d_M_take_95 : decode prog_10_method_24_code 95 = .ok (.getfield 35, 3) := by decide +kernel
theorem d_M_take_98 : decode prog_10_method_24_code 98 = .ok (.iconst 1, 1) := by decide +kernel
theorem d_M_take_99 : decode prog_10_method_24_code 99 = .ok (.iconst 0, 1) := by decide +kernel
theorem d_M_take_100 : decode prog_10_method_24_code 100 = .ok (.iastore, 1) := by decide +kernel
theorem d_M_take_101 : decode prog_10_method_24_code 101 = .ok (.bipush (-3), 2) := by decide +kernel
theorem d_M_take_103 : decode prog_10_method_24_code 103 = .ok (.ireturn, 1) := by decide +kernel
theorem d_M_take_104 : decode prog_10_method_24_code 104 = .ok (.aload_n 0, 1) := by decide +kernel
theorem d_M_take_105 : decode prog_10_method_24_code 105 = .ok (.iload_n 1, 1) := by decide +kernel
theorem d_M_take_106 : decode prog_10_method_24_code 106 = .ok (.iconst 2, 1) := by decide +kernel
theorem d_M_take_107 : decode prog_10_method_24_code 107 = .ok (.iadd, 1) := by decide +kernel
theorem d_M_take_108 : decode prog_10_method_24_code 108 = .ok (.invokevirtual 127, 3) := by decide +kernel
theorem d_M_take_111 : decode prog_10_method_24_code 111 = .ok (.aload_n 0, 1) := by decide +kernel
theorem d_M_take_112 : decode prog_10_method_24_code 112 = .ok (.getfield 28, 3) := by decide +kernel
theorem d_M_take_115 : decode prog_10_method_24_code 115 = .ok (.iconst 1, 1) := by decide +kernel
theorem d_M_take_116 : decode prog_10_method_24_code 116 = .ok (.aload_n 0, 1) := by decide +kernel
theorem d_M_take_117 : decode prog_10_method_24_code 117 = .ok (.getfield 28, 3) := by decide +kernel
theorem d_M_take_120 : decode prog_10_method_24_code 120 = .ok (.iconst 1, 1) := by decide +kernel
theorem d_M_take_121 : decode prog_10_method_24_code 121 = .ok (.iaload, 1) := by decide +kernel
theorem d_M_take_122 : decode prog_10_method_24_code 122 = .ok (.bipush 66, 2) := by decide +kernel
theorem d_M_take_124 : decode prog_10_method_24_code 124 = .ok (.iadd, 1) := by decide +kernel
theorem d_M_take_125 : decode prog_10_method_24_code 125 = .ok (.iastore, 1) := by decide +kernel
theorem d_M_take_126 : decode prog_10_method_24_code 126 = .ok (.aload_n 0, 1) := by decide +kernel
theorem d_M_take_127 : decode prog_10_method_24_code 127 = .ok (.getfield 31, 3) := by decide +kernel
theorem d_M_take_130 : decode prog_10_method_24_code 130 = .ok (.iconst 1, 1) := by decide +kernel
theorem d_M_take_131 : decode prog_10_method_24_code 131 = .ok (.baload, 1) := by decide +kernel
theorem d_M_take_132 : decode prog_10_method_24_code 132 = .ok (.ifCond .ne 45, 3) := by decide +kernel
theorem d_M_take_135 : decode prog_10_method_24_code 135 = .ok (.aload_n 0, 1) := by decide +kernel
theorem d_M_take_136 : decode prog_10_method_24_code 136 = .ok (.getfield 35, 3) := by decide +kernel
theorem d_M_take_139 : decode prog_10_method_24_code 139 = .ok (.iconst 1, 1) := by decide +kernel
theorem d_M_take_140 : decode prog_10_method_24_code 140 = .ok (.dup2, 1) := by decide +kernel
theorem d_M_take_141 : decode prog_10_method_24_code 141 = .ok (.iaload, 1) := by decide +kernel
theorem d_M_take_142 : decode prog_10_method_24_code 142 = .ok (.iconst 1, 1) := by decide +kernel
theorem d_M_take_143 : decode prog_10_method_24_code 143 = .ok (.iadd, 1) := by decide +kernel
theorem d_M_take_144 : decode prog_10_method_24_code 144 = .ok (.iastore, 1) := by decide +kernel
theorem d_M_take_145 : decode prog_10_method_24_code 145 = .ok (.aload_n 0, 1) := by decide +kernel
theorem d_M_take_146 : decode prog_10_method_24_code 146 = .ok (.getfield 35, 3) := by decide +kernel
theorem d_M_take_149 : decode prog_10_method_24_code 149 = .ok (.iconst 1, 1) := by decide +kernel
theorem d_M_take_150 : decode prog_10_method_24_code 150 = .ok (.iaload, 1) := by decide +kernel
theorem d_M_take_151 : decode prog_10_method_24_code 151 = .ok (.bipush 8, 2) := by decide +kernel
theorem d_M_take_153 : decode prog_10_method_24_code 153 = .ok (.if_icmp .ne 22, 3) := by decide +kernel
theorem d_M_take_156 : decode prog_10_method_24_code 156 = .ok (.aload_n 0, 1) := by decide +kernel
theorem d_M_take_157 : decode prog_10_method_24_code 157 = .ok (.getfield 31, 3) := by decide +kernel
theorem d_M_take_160 : decode prog_10_method_24_code 160 = .ok (.iconst 1, 1) := by decide +kernel
theorem d_M_take_161 : decode prog_10_method_24_code 161 = .ok (.iconst 1, 1) := by decide +kernel
theorem d_M_take_162 : decode prog_10_method_24_code 162 = .ok (.bastore, 1) := by decide +kernel
theorem d_M_take_163 : decode prog_10_method_24_code 163 = .ok (.aload_n 0, 1) := by decide +kernel
theorem d_M_take_164 : decode prog_10_method_24_code 164 = .ok (.iconst 0, 1) := by decide +kernel
theorem d_M_take_165 : decode prog_10_method_24_code 165 = .ok (.putfield 81, 3) := by decide +kernel
theorem d_M_take_168 : decode prog_10_method_24_code 168 = .ok (.aload_n 0, 1) := by decide +kernel
theorem d_M_take_169 : decode prog_10_method_24_code 169 = .ok (.getfield 35, 3) := by decide +kernel
theorem d_M_take_172 : decode prog_10_method_24_code 172 = .ok (.iconst 1, 1) := by decide +kernel
theorem d_M_take_173 : decode prog_10_method_24_code 173 = .ok (.iconst 0, 1) := by decide +kernel
theorem d_M_take_174 : decode prog_10_method_24_code 174 = .ok (.iastore, 1) := by decide +kernel
theorem d_M_take_175 : decode prog_10_method_24_code 175 = .ok (.iload_n 2, 1) := by decide +kernel
theorem d_M_take_176 : decode prog_10_method_24_code 176 = .ok (.ireturn, 1) := by decide +kernel
theorem d_M_take_177 : decode prog_10_method_24_code 177 = .ok (.aload_n 0, 1) := by decide +kernel
theorem d_M_take_178 : decode prog_10_method_24_code 178 = .ok (.aload_n 0, 1) := by decide +kernel
theorem d_M_take_179 : decode prog_10_method_24_code 179 = .ok (.getfield 81, 3) := by decide +kernel
theorem d_M_take_182 : decode prog_10_method_24_code 182 = .ok (.iconst 1, 1) := by decide +kernel
theorem d_M_take_183 : decode prog_10_method_24_code 183 = .ok (.ishl, 1) := by decide +kernel
theorem d_M_take_184 : decode prog_10_method_24_code 184 = .ok (.iload_n 3, 1) := by decide +kernel
theorem d_M_take_185 : decode prog_10_method_24_code 185 = .ok (.ifCond .eq 7, 3) := by decide +kernel
theorem d_M_take_188 : decode prog_10_method_24_code 188 = .ok (.iconst 0, 1) := by decide +kernel
theorem d_M_take_189 : decode prog_10_method_24_code 189 = .ok (.goto 4, 3) := by decide +kernel
theorem d_M_take_192 : decode prog_10_method_24_code 192 = .ok (.iconst 1, 1) := by decide +kernel
theorem d_M_take_193 : decode prog_10_method_24_code 193 = .ok (.ior, 1) := by decide +kernel
theorem d_M_take_194 : decode prog_10_method_24_code 194 = .ok (.ldc 131, 2) := by decide +kernel
theorem d_M_take_196 : decode prog_10_method_24_code 196 = .ok (.iand, 1) := by decide +kernel
theorem d_M_take_197 : decode prog_10_method_24_code 197 = .ok (.putfield 81, 3) := by decide +kernel
theorem d_M_take_200 : decode prog_10_method_24_code 200 = .ok (.aload_n 0, 1) := by decide +kernel
theorem d_M_take_201 : decode prog_10_method_24_code 201 = .ok (.getfield 35, 3) := by decide +kernel
theorem d_M_take_204 : decode prog_10_method_24_code 204 = .ok (.iconst 1, 1) := by decide +kernel
theorem d_M_take_205 : decode prog_10_method_24_code 205 = .ok (.aload_n 0, 1) := by decide +kernel
theorem d_M_take_206 : decode prog_10_method_24_code 206 = .ok (.getfield 81, 3) := by decide +kernel
theorem d_M_take_209 : decode prog_10_method_24_code 209 = .ok (.invokestatic 132, 3) := by decide +kernel
theorem d_M_take_212 : decode prog_10_method_24_code 212 = .ok (.iastore, 1) := by decide +kernel
theorem d_M_take_213 : decode prog_10_method_24_code 213 = .ok (.aload_n 0, 1) := by decide +kernel
theorem d_M_take_214 : decode prog_10_method_24_code 214 = .ok (.getfield 41, 3) := by decide +kernel
theorem d_M_take_217 : decode prog_10_method_24_code 217 = .ok (.iconst 1, 1) := by decide +kernel
theorem d_M_take_218 : decode prog_10_method_24_code 218 = .ok (.iload_n 3, 1) := by decide +kernel
theorem d_M_take_219 : decode prog_10_method_24_code 219 = .ok (.ifCond .eq 12, 3) := by decide +kernel
theorem d_M_take_222 : decode prog_10_method_24_code 222 = .ok (.aload_n 0, 1) := by decide +kernel
theorem d_M_take_223 : decode prog_10_method_24_code 223 = .ok (.getfield 41, 3) := by decide +kernel
theorem d_M_take_226 : decode prog_10_method_24_code 226 = .ok (.iconst 1, 1) := by decide +kernel
theorem d_M_take_227 : decode prog_10_method_24_code 227 = .ok (.iaload, 1) := by decide +kernel
theorem d_M_take_228 : decode prog_10_method_24_code 228 = .ok (.goto 11, 3) := by decide +kernel
theorem d_M_take_231 : decode prog_10_method_24_code 231 = .ok (.aload_n 0, 1) := by decide +kernel
theorem d_M_take_232 : decode prog_10_method_24_code 232 = .ok (.getfield 41, 3) := by decide +kernel
theorem d_M_take_235 : decode prog_10_method_24_code 235 = .ok (.iconst 1, 1) := by decide +kernel
theorem d_M_take_236 : decode prog_10_method_24_code 236 = .ok (.iaload, 1) := by decide +kernel
theorem d_M_take_237 : decode prog_10_method_24_code 237 = .ok (.iconst 1, 1) := by decide +kernel
theorem d_M_take_238 : decode prog_10_method_24_code 238 = .ok (.iadd, 1) := by decide +kernel
theorem d_M_take_239 : decode prog_10_method_24_code 239 = .ok (.iastore, 1) := by decide +kernel
theorem d_M_take_240 : decode prog_10_method_24_code 240 = .ok (.aload_n 0, 1) := by decide +kernel
theorem d_M_take_241 : decode prog_10_method_24_code 241 = .ok (.getfield 35, 3) := by decide +kernel
theorem d_M_take_244 : decode prog_10_method_24_code 244 = .ok (.iconst 1, 1) := by decide +kernel
theorem d_M_take_245 : decode prog_10_method_24_code 245 = .ok (.iaload, 1) := by decide +kernel
theorem d_M_take_246 : decode prog_10_method_24_code 246 = .ok (.iconst 4, 1) := by decide +kernel
theorem d_M_take_247 : decode prog_10_method_24_code 247 = .ok (.if_icmp .ne 17, 3) := by decide +kernel
theorem d_M_take_250 : decode prog_10_method_24_code 250 = .ok (.aload_n 0, 1) := by decide +kernel
theorem d_M_take_251 : decode prog_10_method_24_code 251 = .ok (.getfield 31, 3) := by decide +kernel
theorem d_M_take_254 : decode prog_10_method_24_code 254 = .ok (.iconst 1, 1) := by decide +kernel
theorem d_M_take_255 : decode prog_10_method_24_code 255 = .ok (.iconst 0, 1) := by decide +kernel
theorem d_M_take_256 : decode prog_10_method_24_code 256 = .ok (.bastore, 1) := by decide +kernel
theorem d_M_take_257 : decode prog_10_method_24_code 257 = .ok (.aload_n 0, 1) := by decide +kernel
theorem d_M_take_258 : decode prog_10_method_24_code 258 = .ok (.getfield 35, 3) := by decide +kernel
theorem d_M_take_261 : decode prog_10_method_24_code 261 = .ok (.iconst 1, 1) := by decide +kernel
theorem d_M_take_262 : decode prog_10_method_24_code 262 = .ok (.iconst 0, 1) := by decide +kernel
theorem d_M_take_263 : decode prog_10_method_24_code 263 = .ok (.iastore, 1) := by decide +kernel
theorem d_M_take_264 : decode prog_10_method_24_code 264 = .ok (.iload_n 3, 1) := by decide +kernel
theorem d_M_take_265 : decode prog_10_method_24_code 265 = .ok (.ifCond .eq 7, 3) := by decide +kernel
theorem d_M_take_268 : decode prog_10_method_24_code 268 = .ok (.iload_n 2, 1) := by decide +kernel
theorem d_M_take_269 : decode prog_10_method_24_code 269 = .ok (.goto 5, 3) := by decide +kernel
theorem d_M_take_272 : decode prog_10_method_24_code 272 = .ok (.bipush (-2), 2) := by decide +kernel
theorem d_M_take_274 : decode prog_10_method_24_code 274 = .ok (.ireturn, 1) := by decide +kernel
theorem d_M_takeWord_0 : decode prog_10_method_22_code 0 = .ok (.aload_n 0, 1) := by decide +kernel
theorem d_M_takeWord_1 : decode prog_10_method_22_code 1 = .ok (.lconst 0, 1) := by decide +kernel
theorem d_M_takeWord_2 : decode prog_10_method_22_code 2 = .ok (.putfield 87, 3) := by decide +kernel
theorem d_M_takeWord_5 : decode prog_10_method_22_code 5 = .ok (.iconst 0, 1) := by decide +kernel
theorem d_M_takeWord_6 : decode prog_10_method_22_code 6 = .ok (.istore_n 2, 1) := by decide +kernel
theorem d_M_takeWord_7 : decode prog_10_method_22_code 7 = .ok (.iload_n 2, 1) := by decide +kernel
theorem d_M_takeWord_8 : decode prog_10_method_22_code 8 = .ok (.bipush 64, 2) := by decide +kernel
theorem d_M_takeWord_10 : decode prog_10_method_22_code 10 = .ok (.if_icmp .ge 55, 3) := by decide +kernel
theorem d_M_takeWord_13 : decode prog_10_method_22_code 13 = .ok (.aload_n 0, 1) := by decide +kernel
theorem d_M_takeWord_14 : decode prog_10_method_22_code 14 = .ok (.getfield 22, 3) := by decide +kernel
theorem d_M_takeWord_17 : decode prog_10_method_22_code 17 = .ok (.iload_n 1, 1) := by decide +kernel
theorem d_M_takeWord_18 : decode prog_10_method_22_code 18 = .ok (.iload_n 2, 1) := by decide +kernel
theorem d_M_takeWord_19 : decode prog_10_method_22_code 19 = .ok (.iadd, 1) := by decide +kernel
theorem d_M_takeWord_20 : decode prog_10_method_22_code 20 = .ok (.iaload, 1) := by decide +kernel
theorem d_M_takeWord_21 : decode prog_10_method_22_code 21 = .ok (.istore_n 3, 1) := by decide +kernel
theorem d_M_takeWord_22 : decode prog_10_method_22_code 22 = .ok (.aload_n 0, 1) := by decide +kernel
theorem d_M_takeWord_23 : decode prog_10_method_22_code 23 = .ok (.aload_n 0, 1) := by decide +kernel
theorem d_M_takeWord_24 : decode prog_10_method_22_code 24 = .ok (.getfield 87, 3) := by decide +kernel
theorem d_M_takeWord_27 : decode prog_10_method_22_code 27 = .ok (.iload_n 3, 1) := by decide +kernel
theorem d_M_takeWord_28 : decode prog_10_method_22_code 28 = .ok (.aload_n 0, 1) := by decide +kernel
theorem d_M_takeWord_29 : decode prog_10_method_22_code 29 = .ok (.getfield 47, 3) := by decide +kernel
theorem d_M_takeWord_32 : decode prog_10_method_22_code 32 = .ok (.bipush 38, 2) := by decide +kernel
theorem d_M_takeWord_34 : decode prog_10_method_22_code 34 = .ok (.iaload, 1) := by decide +kernel
theorem d_M_takeWord_35 : decode prog_10_method_22_code 35 = .ok (.ixor, 1) := by decide +kernel
theorem d_M_takeWord_36 : decode prog_10_method_22_code 36 = .ok (.aload_n 0, 1) := by decide +kernel
theorem d_M_takeWord_37 : decode prog_10_method_22_code 37 = .ok (.getfield 47, 3) := by decide +kernel
theorem d_M_takeWord_40 : decode prog_10_method_22_code 40 = .ok (.bipush 57, 2) := by decide +kernel
theorem d_M_takeWord_42 : decode prog_10_method_22_code 42 = .ok (.iaload, 1) := by decide +kernel
theorem d_M_takeWord_43 : decode prog_10_method_22_code 43 = .ok (.ixor, 1) := by decide +kernel
theorem d_M_takeWord_44 : decode prog_10_method_22_code 44 = .ok (.i2l, 1) := by decide +kernel
theorem d_M_takeWord_45 : decode prog_10_method_22_code 45 = .ok (.iload_n 2, 1) := by decide +kernel
theorem d_M_takeWord_46 : decode prog_10_method_22_code 46 = .ok (.lshl, 1) := by decide +kernel
theorem d_M_takeWord_47 : decode prog_10_method_22_code 47 = .ok (.lor, 1) := by decide +kernel
theorem d_M_takeWord_48 : decode prog_10_method_22_code 48 = .ok (.putfield 87, 3) := by decide +kernel
theorem d_M_takeWord_51 : decode prog_10_method_22_code 51 = .ok (.aload_n 0, 1) := by decide +kernel
theorem d_M_takeWord_52 : decode prog_10_method_22_code 52 = .ok (.getfield 47, 3) := by decide +kernel
theorem d_M_takeWord_55 : decode prog_10_method_22_code 55 = .ok (.iload_n 3, 1) := by decide +kernel
theorem d_M_takeWord_56 : decode prog_10_method_22_code 56 = .ok (.invokestatic 123, 3) := by decide +kernel
theorem d_M_takeWord_59 : decode prog_10_method_22_code 59 = .ok (.iinc 2 1, 3) := by decide +kernel
theorem d_M_takeWord_62 : decode prog_10_method_22_code 62 = .ok (.goto (-55), 3) := by decide +kernel
theorem d_M_takeWord_65 : decode prog_10_method_22_code 65 = .ok (.return_, 1) := by decide +kernel
theorem d_M_onesOf_0 : decode prog_10_method_23_code 0 = .ok (.iconst 0, 1) := by decide +kernel
theorem d_M_onesOf_1 : decode prog_10_method_23_code 1 = .ok (.istore_n 1, 1) := by decide +kernel
theorem d_M_onesOf_2 : decode prog_10_method_23_code 2 = .ok (.iconst 0, 1) := by decide +kernel
theorem d_M_onesOf_3 : decode prog_10_method_23_code 3 = .ok (.istore_n 2, 1) := by decide +kernel
theorem d_M_onesOf_4 : decode prog_10_method_23_code 4 = .ok (.iload_n 2, 1) := by decide +kernel
theorem d_M_onesOf_5 : decode prog_10_method_23_code 5 = .ok (.bipush 16, 2) := by decide +kernel
theorem d_M_onesOf_7 : decode prog_10_method_23_code 7 = .ok (.if_icmp .ge 17, 3) := by decide +kernel
theorem d_M_onesOf_10 : decode prog_10_method_23_code 10 = .ok (.iload_n 1, 1) := by decide +kernel
theorem d_M_onesOf_11 : decode prog_10_method_23_code 11 = .ok (.iload_n 0, 1) := by decide +kernel
theorem d_M_onesOf_12 : decode prog_10_method_23_code 12 = .ok (.iload_n 2, 1) := by decide +kernel
theorem d_M_onesOf_13 : decode prog_10_method_23_code 13 = .ok (.ishr, 1) := by decide +kernel
theorem d_M_onesOf_14 : decode prog_10_method_23_code 14 = .ok (.iconst 1, 1) := by decide +kernel
theorem d_M_onesOf_15 : decode prog_10_method_23_code 15 = .ok (.iand, 1) := by decide +kernel
theorem d_M_onesOf_16 : decode prog_10_method_23_code 16 = .ok (.iadd, 1) := by decide +kernel
theorem d_M_onesOf_17 : decode prog_10_method_23_code 17 = .ok (.istore_n 1, 1) := by decide +kernel
theorem d_M_onesOf_18 : decode prog_10_method_23_code 18 = .ok (.iinc 2 1, 3) := by decide +kernel
theorem d_M_onesOf_21 : decode prog_10_method_23_code 21 = .ok (.goto (-17), 3) := by decide +kernel
theorem d_M_onesOf_24 : decode prog_10_method_23_code 24 = .ok (.iload_n 1, 1) := by decide +kernel
theorem d_M_onesOf_25 : decode prog_10_method_23_code 25 = .ok (.ireturn, 1) := by decide +kernel
theorem d_M_word_0 : decode prog_10_method_25_code 0 = .ok (.aload_n 0, 1) := by decide +kernel
theorem d_M_word_1 : decode prog_10_method_25_code 1 = .ok (.iconst 0, 1) := by decide +kernel
theorem d_M_word_2 : decode prog_10_method_25_code 2 = .ok (.putfield 61, 3) := by decide +kernel
theorem d_M_word_5 : decode prog_10_method_25_code 5 = .ok (.aload_n 0, 1) := by decide +kernel
theorem d_M_word_6 : decode prog_10_method_25_code 6 = .ok (.getfield 87, 3) := by decide +kernel
theorem d_M_word_9 : decode prog_10_method_25_code 9 = .ok (.lreturn, 1) := by decide +kernel
theorem d_M_raw_0 : decode prog_10_method_27_code 0 = .ok (.iload_n 1, 1) := by decide +kernel
theorem d_M_raw_1 : decode prog_10_method_27_code 1 = .ok (.invokestatic 135, 3) := by decide +kernel
theorem d_M_raw_4 : decode prog_10_method_27_code 4 = .ok (.ifCond .eq 17, 3) := by decide +kernel
theorem d_M_raw_7 : decode prog_10_method_27_code 7 = .ok (.iload_n 3, 1) := by decide +kernel
theorem d_M_raw_8 : decode prog_10_method_27_code 8 = .ok (.iconst 0, 1) := by decide +kernel
theorem d_M_raw_9 : decode prog_10_method_27_code 9 = .ok (.bipush 32, 2) := by decide +kernel
theorem d_M_raw_11 : decode prog_10_method_27_code 11 = .ok (.invokestatic 105, 3) := by decide +kernel
theorem d_M_raw_14 : decode prog_10_method_27_code 14 = .ok (.ifCond .eq 7, 3) := by decide +kernel
theorem d_M_raw_17 : decode prog_10_method_27_code 17 = .ok (.iconst 1, 1) := by decide +kernel
theorem d_M_raw_18 : decode prog_10_method_27_code 18 = .ok (.goto 4, 3) := by decide +kernel
theorem d_M_raw_21 : decode prog_10_method_27_code 21 = .ok (.iconst 0, 1) := by decide +kernel
theorem d_M_raw_22 : decode prog_10_method_27_code 22 = .ok (.istore 4, 2) := by decide +kernel
theorem d_M_raw_24 : decode prog_10_method_27_code 24 = .ok (.aload_n 0, 1) := by decide +kernel
theorem d_M_raw_25 : decode prog_10_method_27_code 25 = .ok (.iload 4, 2) := by decide +kernel
theorem d_M_raw_27 : decode prog_10_method_27_code 27 = .ok (.ifCond .ne 7, 3) := by decide +kernel
theorem d_M_raw_30 : decode prog_10_method_27_code 30 = .ok (.iconst 1, 1) := by decide +kernel
theorem d_M_raw_31 : decode prog_10_method_27_code 31 = .ok (.goto 22, 3) := by decide +kernel
theorem d_M_raw_34 : decode prog_10_method_27_code 34 = .ok (.aload_n 0, 1) := by decide +kernel
theorem d_M_raw_35 : decode prog_10_method_27_code 35 = .ok (.getfield 25, 3) := by decide +kernel
theorem d_M_raw_38 : decode prog_10_method_27_code 38 = .ok (.iload_n 1, 1) := by decide +kernel
theorem d_M_raw_39 : decode prog_10_method_27_code 39 = .ok (.iaload, 1) := by decide +kernel
theorem d_M_raw_40 : decode prog_10_method_27_code 40 = .ok (.iload_n 3, 1) := by decide +kernel
theorem d_M_raw_41 : decode prog_10_method_27_code 41 = .ok (.iadd, 1) := by decide +kernel
theorem d_M_raw_42 : decode prog_10_method_27_code 42 = .ok (.sipush 2640, 3) := by decide +kernel
theorem d_M_raw_45 : decode prog_10_method_27_code 45 = .ok (.if_icmp .le 7, 3) := by decide +kernel
theorem d_M_raw_48 : decode prog_10_method_27_code 48 = .ok (.iconst 2, 1) := by decide +kernel
theorem d_M_raw_49 : decode prog_10_method_27_code 49 = .ok (.goto 4, 3) := by decide +kernel
theorem d_M_raw_52 : decode prog_10_method_27_code 52 = .ok (.iconst 0, 1) := by decide +kernel
theorem d_M_raw_53 : decode prog_10_method_27_code 53 = .ok (.invokevirtual 102, 3) := by decide +kernel
theorem d_M_raw_56 : decode prog_10_method_27_code 56 = .ok (.ifCond .eq 5, 3) := by decide +kernel
theorem d_M_raw_59 : decode prog_10_method_27_code 59 = .ok (.iconst 0, 1) := by decide +kernel
theorem d_M_raw_60 : decode prog_10_method_27_code 60 = .ok (.ireturn, 1) := by decide +kernel
theorem d_M_raw_61 : decode prog_10_method_27_code 61 = .ok (.iload_n 3, 1) := by decide +kernel
theorem d_M_raw_62 : decode prog_10_method_27_code 62 = .ok (.iconst 1, 1) := by decide +kernel
theorem d_M_raw_63 : decode prog_10_method_27_code 63 = .ok (.isub, 1) := by decide +kernel
theorem d_M_raw_64 : decode prog_10_method_27_code 64 = .ok (.istore 5, 2) := by decide +kernel
theorem d_M_raw_66 : decode prog_10_method_27_code 66 = .ok (.iload 5, 2) := by decide +kernel
theorem d_M_raw_68 : decode prog_10_method_27_code 68 = .ok (.ifCond .lt 20, 3) := by decide +kernel
theorem d_M_raw_71 : decode prog_10_method_27_code 71 = .ok (.aload_n 0, 1) := by decide +kernel
theorem d_M_raw_72 : decode prog_10_method_27_code 72 = .ok (.iload_n 1, 1) := by decide +kernel
theorem d_M_raw_73 : decode prog_10_method_27_code 73 = .ok (.iload_n 2, 1) := by decide +kernel
theorem d_M_raw_74 : decode prog_10_method_27_code 74 = .ok (.iload 5, 2) := by decide +kernel
theorem d_M_raw_76 : decode prog_10_method_27_code 76 = .ok (.ishr, 1) := by decide +kernel
theorem d_M_raw_77 : decode prog_10_method_27_code 77 = .ok (.iconst 1, 1) := by decide +kernel
theorem d_M_raw_78 : decode prog_10_method_27_code 78 = .ok (.iand, 1) := by decide +kernel
theorem d_M_raw_79 : decode prog_10_method_27_code 79 = .ok (.invokevirtual 109, 3) := by decide +kernel
theorem d_M_raw_82 : decode prog_10_method_27_code 82 = .ok (.iinc 5 (-1), 3) := by decide +kernel
theorem d_M_raw_85 : decode prog_10_method_27_code 85 = .ok (.goto (-19), 3) := by decide +kernel
theorem d_M_raw_88 : decode prog_10_method_27_code 88 = .ok (.aload_n 0, 1) := by decide +kernel
theorem d_M_raw_89 : decode prog_10_method_27_code 89 = .ok (.getfield 25, 3) := by decide +kernel
theorem d_M_raw_92 : decode prog_10_method_27_code 92 = .ok (.iload_n 1, 1) := by decide +kernel
theorem d_M_raw_93 : decode prog_10_method_27_code 93 = .ok (.iaload, 1) := by decide +kernel
theorem d_M_raw_94 : decode prog_10_method_27_code 94 = .ok (.ireturn, 1) := by decide +kernel
theorem d_M_isStream_0 : decode prog_10_method_26_code 0 = .ok (.iload_n 0, 1) := by decide +kernel
theorem d_M_isStream_1 : decode prog_10_method_26_code 1 = .ok (.ifCond .eq 8, 3) := by decide +kernel
theorem d_M_isStream_4 : decode prog_10_method_26_code 4 = .ok (.iload_n 0, 1) := by decide +kernel
theorem d_M_isStream_5 : decode prog_10_method_26_code 5 = .ok (.iconst 1, 1) := by decide +kernel
theorem d_M_isStream_6 : decode prog_10_method_26_code 6 = .ok (.if_icmp .ne 7, 3) := by decide +kernel
theorem d_M_isStream_9 : decode prog_10_method_26_code 9 = .ok (.iconst 1, 1) := by decide +kernel
theorem d_M_isStream_10 : decode prog_10_method_26_code 10 = .ok (.goto 4, 3) := by decide +kernel
theorem d_M_isStream_13 : decode prog_10_method_26_code 13 = .ok (.iconst 0, 1) := by decide +kernel
theorem d_M_isStream_14 : decode prog_10_method_26_code 14 = .ok (.ireturn, 1) := by decide +kernel
theorem d_M_bend_0 : decode prog_10_method_28_code 0 = .ok (.aload_n 0, 1) := by decide +kernel
theorem d_M_bend_1 : decode prog_10_method_28_code 1 = .ok (.iload_n 1, 1) := by decide +kernel
theorem d_M_bend_2 : decode prog_10_method_28_code 2 = .ok (.invokestatic 135, 3) := by decide +kernel
theorem d_M_bend_5 : decode prog_10_method_28_code 5 = .ok (.ifCond .ne 7, 3) := by decide +kernel
theorem d_M_bend_8 : decode prog_10_method_28_code 8 = .ok (.iconst 1, 1) := by decide +kernel
theorem d_M_bend_9 : decode prog_10_method_28_code 9 = .ok (.goto 24, 3) := by decide +kernel
theorem d_M_bend_12 : decode prog_10_method_28_code 12 = .ok (.iload_n 2, 1) := by decide +kernel
theorem d_M_bend_13 : decode prog_10_method_28_code 13 = .ok (.iconst 0, 1) := by decide +kernel
theorem d_M_bend_14 : decode prog_10_method_28_code 14 = .ok (.aload_n 0, 1) := by decide +kernel
theorem d_M_bend_15 : decode prog_10_method_28_code 15 = .ok (.getfield 25, 3) := by decide +kernel
theorem d_M_bend_18 : decode prog_10_method_28_code 18 = .ok (.iload_n 1, 1) := by decide +kernel
theorem d_M_bend_19 : decode prog_10_method_28_code 19 = .ok (.iaload, 1) := by decide +kernel
theorem d_M_bend_20 : decode prog_10_method_28_code 20 = .ok (.iconst 1, 1) := by decide +kernel
theorem d_M_bend_21 : decode prog_10_method_28_code 21 = .ok (.isub, 1) := by decide +kernel
theorem d_M_bend_22 : decode prog_10_method_28_code 22 = .ok (.invokestatic 105, 3) := by decide +kernel
theorem d_M_bend_25 : decode prog_10_method_28_code 25 = .ok (.ifCond .ne 7, 3) := by decide +kernel
theorem d_M_bend_28 : decode prog_10_method_28_code 28 = .ok (.iconst 2, 1) := by decide +kernel
theorem d_M_bend_29 : decode prog_10_method_28_code 29 = .ok (.goto 4, 3) := by decide +kernel
theorem d_M_bend_32 : decode prog_10_method_28_code 32 = .ok (.iconst 0, 1) := by decide +kernel
theorem d_M_bend_33 : decode prog_10_method_28_code 33 = .ok (.invokevirtual 102, 3) := by decide +kernel
theorem d_M_bend_36 : decode prog_10_method_28_code 36 = .ok (.ifCond .eq 5, 3) := by decide +kernel
theorem d_M_bend_39 : decode prog_10_method_28_code 39 = .ok (.iconst 0, 1) := by decide +kernel
theorem d_M_bend_40 : decode prog_10_method_28_code 40 = .ok (.ireturn, 1) := by decide +kernel
theorem d_M_bend_41 : decode prog_10_method_28_code 41 = .ok (.aload_n 0, 1) := by decide +kernel
theorem d_M_bend_42 : decode prog_10_method_28_code 42 = .ok (.getfield 22, 3) := by decide +kernel
theorem d_M_bend_45 : decode prog_10_method_28_code 45 = .ok (.sipush 2640, 3) := by decide +kernel
theorem d_M_bend_48 : decode prog_10_method_28_code 48 = .ok (.iload_n 1, 1) := by decide +kernel
theorem d_M_bend_49 : decode prog_10_method_28_code 49 = .ok (.imul, 1) := by decide +kernel
theorem d_M_bend_50 : decode prog_10_method_28_code 50 = .ok (.iload_n 2, 1) := by decide +kernel
theorem d_M_bend_51 : decode prog_10_method_28_code 51 = .ok (.iadd, 1) := by decide +kernel
theorem d_M_bend_52 : decode prog_10_method_28_code 52 = .ok (.iconst 1, 1) := by decide +kernel
theorem d_M_bend_53 : decode prog_10_method_28_code 53 = .ok (.aload_n 0, 1) := by decide +kernel
theorem d_M_bend_54 : decode prog_10_method_28_code 54 = .ok (.getfield 22, 3) := by decide +kernel
theorem d_M_bend_57 : decode prog_10_method_28_code 57 = .ok (.sipush 2640, 3) := by decide +kernel
theorem d_M_bend_60 : decode prog_10_method_28_code 60 = .ok (.iload_n 1, 1) := by decide +kernel
theorem d_M_bend_61 : decode prog_10_method_28_code 61 = .ok (.imul, 1) := by decide +kernel
theorem d_M_bend_62 : decode prog_10_method_28_code 62 = .ok (.iload_n 2, 1) := by decide +kernel
theorem d_M_bend_63 : decode prog_10_method_28_code 63 = .ok (.iadd, 1) := by decide +kernel
theorem d_M_bend_64 : decode prog_10_method_28_code 64 = .ok (.iaload, 1) := by decide +kernel
theorem d_M_bend_65 : decode prog_10_method_28_code 65 = .ok (.isub, 1) := by decide +kernel
theorem d_M_bend_66 : decode prog_10_method_28_code 66 = .ok (.iastore, 1) := by decide +kernel
theorem d_M_bend_67 : decode prog_10_method_28_code 67 = .ok (.aload_n 0, 1) := by decide +kernel
theorem d_M_bend_68 : decode prog_10_method_28_code 68 = .ok (.getfield 22, 3) := by decide +kernel
theorem d_M_bend_71 : decode prog_10_method_28_code 71 = .ok (.sipush 2640, 3) := by decide +kernel
theorem d_M_bend_74 : decode prog_10_method_28_code 74 = .ok (.iload_n 1, 1) := by decide +kernel
theorem d_M_bend_75 : decode prog_10_method_28_code 75 = .ok (.imul, 1) := by decide +kernel
theorem d_M_bend_76 : decode prog_10_method_28_code 76 = .ok (.iload_n 2, 1) := by decide +kernel
theorem d_M_bend_77 : decode prog_10_method_28_code 77 = .ok (.iadd, 1) := by decide +kernel
theorem d_M_bend_78 : decode prog_10_method_28_code 78 = .ok (.iaload, 1) := by decide +kernel
theorem d_M_bend_79 : decode prog_10_method_28_code 79 = .ok (.iconst 1, 1) := by decide +kernel
theorem d_M_bend_80 : decode prog_10_method_28_code 80 = .ok (.if_icmp .ne 7, 3) := by decide +kernel
theorem d_M_bend_83 : decode prog_10_method_28_code 83 = .ok (.iconst 1, 1) := by decide +kernel
theorem d_M_bend_84 : decode prog_10_method_28_code 84 = .ok (.goto 4, 3) := by decide +kernel
theorem d_M_bend_87 : decode prog_10_method_28_code 87 = .ok (.iconst 0, 1) := by decide +kernel
theorem d_M_bend_88 : decode prog_10_method_28_code 88 = .ok (.ireturn, 1) := by decide +kernel
theorem d_M_lose_0 : decode prog_10_method_29_code 0 = .ok (.iload_n 1, 1) := by decide +kernel
theorem d_M_lose_1 : decode prog_10_method_29_code 1 = .ok (.invokestatic 135, 3) := by decide +kernel
theorem d_M_lose_4 : decode prog_10_method_29_code 4 = .ok (.ifCond .eq 15, 3) := by decide +kernel
theorem d_M_lose_7 : decode prog_10_method_29_code 7 = .ok (.iload_n 3, 1) := by decide +kernel
theorem d_M_lose_8 : decode prog_10_method_29_code 8 = .ok (.ifCond .lt 11, 3) := by decide +kernel
theorem d_M_lose_11 : decode prog_10_method_29_code 11 = .ok (.iload_n 2, 1) := by decide +kernel
theorem d_M_lose_12 : decode prog_10_method_29_code 12 = .ok (.ifCond .lt 7, 3) := by decide +kernel
theorem d_M_lose_15 : decode prog_10_method_29_code 15 = .ok (.iconst 1, 1) := by decide +kernel
theorem d_M_lose_16 : decode prog_10_method_29_code 16 = .ok (.goto 4, 3) := by decide +kernel
theorem d_M_lose_19 : decode prog_10_method_29_code 19 = .ok (.iconst 0, 1) := by decide +kernel
theorem d_M_lose_20 : decode prog_10_method_29_code 20 = .ok (.istore 4, 2) := by decide +kernel
theorem d_M_lose_22 : decode prog_10_method_29_code 22 = .ok (.aload_n 0, 1) := by decide +kernel
theorem d_M_lose_23 : decode prog_10_method_29_code 23 = .ok (.iload 4, 2) := by decide +kernel
theorem d_M_lose_25 : decode prog_10_method_29_code 25 = .ok (.ifCond .eq 17, 3) := by decide +kernel
theorem d_M_lose_28 : decode prog_10_method_29_code 28 = .ok (.iload_n 2, 1) := by decide +kernel
theorem d_M_lose_29 : decode prog_10_method_29_code 29 = .ok (.aload_n 0, 1) := by decide +kernel
theorem d_M_lose_30 : decode prog_10_method_29_code 30 = .ok (.getfield 28, 3) := by decide +kernel
theorem d_M_lose_33 : decode prog_10_method_29_code 33 = .ok (.iload_n 1, 1) := by decide +kernel
theorem d_M_lose_34 : decode prog_10_method_29_code 34 = .ok (.iaload, 1) := by decide +kernel
theorem d_M_lose_35 : decode prog_10_method_29_code 35 = .ok (.if_icmp .lt 7, 3) := by decide +kernel
theorem d_M_lose_38 : decode prog_10_method_29_code 38 = .ok (.iconst 0, 1) := by decide +kernel
theorem d_M_lose_39 : decode prog_10_method_29_code 39 = .ok (.goto 4, 3) := by decide +kernel
theorem d_M_lose_42 : decode prog_10_method_29_code 42 = .ok (.iconst 1, 1) := by decide +kernel
theorem d_M_lose_43 : decode prog_10_method_29_code 43 = .ok (.invokevirtual 102, 3) := by decide +kernel
theorem d_M_lose_46 : decode prog_10_method_29_code 46 = .ok (.ifCond .eq 5, 3) := by decide +kernel
theorem d_M_lose_49 : decode prog_10_method_29_code 49 = .ok (.iconst 0, 1) := by decide +kernel
theorem d_M_lose_50 : decode prog_10_method_29_code 50 = .ok (.ireturn, 1) := by decide +kernel
theorem d_M_lose_51 : decode prog_10_method_29_code 51 = .ok (.iload_n 2, 1) := by decide +kernel
theorem d_M_lose_52 : decode prog_10_method_29_code 52 = .ok (.aload_n 0, 1) := by decide +kernel
theorem d_M_lose_53 : decode prog_10_method_29_code 53 = .ok (.getfield 25, 3) := by decide +kernel
theorem d_M_lose_56 : decode prog_10_method_29_code 56 = .ok (.iload_n 1, 1) := by decide +kernel
theorem d_M_lose_57 : decode prog_10_method_29_code 57 = .ok (.iaload, 1) := by decide +kernel
theorem d_M_lose_58 : decode prog_10_method_29_code 58 = .ok (.if_icmp .lt 5, 3) := by decide +kernel
theorem d_M_lose_61 : decode prog_10_method_29_code 61 = .ok (.iconst 0, 1) := by decide +kernel
theorem d_M_lose_62 : decode prog_10_method_29_code 62 = .ok (.ireturn, 1) := by decide +kernel
theorem d_M_lose_63 : decode prog_10_method_29_code 63 = .ok (.iload_n 3, 1) := by decide +kernel
theorem d_M_lose_64 : decode prog_10_method_29_code 64 = .ok (.aload_n 0, 1) := by decide +kernel
theorem d_M_lose_65 : decode prog_10_method_29_code 65 = .ok (.getfield 25, 3) := by decide +kernel
theorem d_M_lose_68 : decode prog_10_method_29_code 68 = .ok (.iload_n 1, 1) := by decide +kernel
theorem d_M_lose_69 : decode prog_10_method_29_code 69 = .ok (.iaload, 1) := by decide +kernel
theorem d_M_lose_70 : decode prog_10_method_29_code 70 = .ok (.iload_n 2, 1) := by decide +kernel
theorem d_M_lose_71 : decode prog_10_method_29_code 71 = .ok (.isub, 1) := by decide +kernel
theorem d_M_lose_72 : decode prog_10_method_29_code 72 = .ok (.if_icmp .ge 7, 3) := by decide +kernel
theorem d_M_lose_75 : decode prog_10_method_29_code 75 = .ok (.iload_n 3, 1) := by decide +kernel
theorem d_M_lose_76 : decode prog_10_method_29_code 76 = .ok (.goto 11, 3) := by decide +kernel
theorem d_M_lose_79 : decode prog_10_method_29_code 79 = .ok (.aload_n 0, 1) := by decide +kernel
theorem d_M_lose_80 : decode prog_10_method_29_code 80 = .ok (.getfield 25, 3) := by decide +kernel
theorem d_M_lose_83 : decode prog_10_method_29_code 83 = .ok (.iload_n 1, 1) := by decide +kernel
theorem d_M_lose_84 : decode prog_10_method_29_code 84 = .ok (.iaload, 1) := by decide +kernel
theorem d_M_lose_85 : decode prog_10_method_29_code 85 = .ok (.iload_n 2, 1) := by decide +kernel
theorem d_M_lose_86 : decode prog_10_method_29_code 86 = .ok (.isub, 1) := by decide +kernel
theorem d_M_lose_87 : decode prog_10_method_29_code 87 = .ok (.istore 5, 2) := by decide +kernel
theorem d_M_lose_89 : decode prog_10_method_29_code 89 = .ok (.aload_n 0, 1) := by decide +kernel
theorem d_M_lose_90 : decode prog_10_method_29_code 90 = .ok (.getfield 25, 3) := by decide +kernel
theorem d_M_lose_93 : decode prog_10_method_29_code 93 = .ok (.iload_n 1, 1) := by decide +kernel
theorem d_M_lose_94 : decode prog_10_method_29_code 94 = .ok (.aload_n 0, 1) := by decide +kernel
theorem d_M_lose_95 : decode prog_10_method_29_code 95 = .ok (.getfield 25, 3) := by decide +kernel
theorem d_M_lose_98 : decode prog_10_method_29_code 98 = .ok (.iload_n 1, 1) := by decide +kernel
theorem d_M_lose_99 : decode prog_10_method_29_code 99 = .ok (.iaload, 1) := by decide +kernel
theorem d_M_lose_100 : decode prog_10_method_29_code 100 = .ok (.iload 5, 2) := by decide +kernel
theorem d_M_lose_102 : decode prog_10_method_29_code 102 = .ok (.isub, 1) := by decide +kernel
theorem d_M_lose_103 : decode prog_10_method_29_code 103 = .ok (.iastore, 1) := by decide +kernel
theorem d_M_lose_104 : decode prog_10_method_29_code 104 = .ok (.iload_n 2, 1) := by decide +kernel
theorem d_M_lose_105 : decode prog_10_method_29_code 105 = .ok (.istore 6, 2) := by decide +kernel
theorem d_M_lose_107 : decode prog_10_method_29_code 107 = .ok (.iload 6, 2) := by decide +kernel
theorem d_M_lose_109 : decode prog_10_method_29_code 109 = .ok (.aload_n 0, 1) := by decide +kernel
theorem d_M_lose_110 : decode prog_10_method_29_code 110 = .ok (.getfield 25, 3) := by decide +kernel
theorem d_M_lose_113 : decode prog_10_method_29_code 113 = .ok (.iload_n 1, 1) := by decide +kernel
theorem d_M_lose_114 : decode prog_10_method_29_code 114 = .ok (.iaload, 1) := by decide +kernel
theorem d_M_lose_115 : decode prog_10_method_29_code 115 = .ok (.if_icmp .ge 38, 3) := by decide +kernel
theorem d_M_lose_118 : decode prog_10_method_29_code 118 = .ok (.aload_n 0, 1) := by decide +kernel
theorem d_M_lose_119 : decode prog_10_method_29_code 119 = .ok (.getfield 22, 3) := by decide +kernel
theorem d_M_lose_122 : decode prog_10_method_29_code 122 = .ok (.sipush 2640, 3) := by decide +kernel
theorem d_M_lose_125 : decode prog_10_method_29_code 125 = .ok (.iload_n 1, 1) := by decide +kernel
theorem d_M_lose_126 : decode prog_10_method_29_code 126 = .ok (.imul, 1) := by decide +kernel
theorem d_M_lose_127 : decode prog_10_method_29_code 127 = .ok (.iload 6, 2) := by decide +kernel
theorem d_M_lose_129 : decode prog_10_method_29_code 129 = .ok (.iadd, 1) := by decide +kernel
theorem d_M_lose_130 : decode prog_10_method_29_code 130 = .ok (.aload_n 0, 1) := by decide +kernel
theorem d_M_lose_131 : decode prog_10_method_29_code 131 = .ok (.getfield 22, 3) := by decide +kernel
theorem d_M_lose_134 : decode prog_10_method_29_code 134 = .ok (.sipush 2640, 3) := by decide +kernel
theorem d_M_lose_137 : decode prog_10_method_29_code 137 = .ok (.iload_n 1, 1) := by decide +kernel
theorem d_M_lose_138 : decode prog_10_method_29_code 138 = .ok (.imul, 1) := by decide +kernel
theorem d_M_lose_139 : decode prog_10_method_29_code 139 = .ok (.iload 6, 2) := by decide +kernel
theorem d_M_lose_141 : decode prog_10_method_29_code 141 = .ok (.iadd, 1) := by decide +kernel
theorem d_M_lose_142 : decode prog_10_method_29_code 142 = .ok (.iload 5, 2) := by decide +kernel
theorem d_M_lose_144 : decode prog_10_method_29_code 144 = .ok (.iadd, 1) := by decide +kernel
theorem d_M_lose_145 : decode prog_10_method_29_code 145 = .ok (.iaload, 1) := by decide +kernel
theorem d_M_lose_146 : decode prog_10_method_29_code 146 = .ok (.iastore, 1) := by decide +kernel
theorem d_M_lose_147 : decode prog_10_method_29_code 147 = .ok (.iinc 6 1, 3) := by decide +kernel
theorem d_M_lose_150 : decode prog_10_method_29_code 150 = .ok (.goto (-43), 3) := by decide +kernel
theorem d_M_lose_153 : decode prog_10_method_29_code 153 = .ok (.iload 5, 2) := by decide +kernel
theorem d_M_lose_155 : decode prog_10_method_29_code 155 = .ok (.ireturn, 1) := by decide +kernel
theorem d_M_bit_0 : decode prog_10_method_30_code 0 = .ok (.aload_n 0, 1) := by decide +kernel
theorem d_M_bit_1 : decode prog_10_method_30_code 1 = .ok (.iload_n 1, 1) := by decide +kernel
theorem d_M_bit_2 : decode prog_10_method_30_code 2 = .ok (.invokestatic 135, 3) := by decide +kernel
theorem d_M_bit_5 : decode prog_10_method_30_code 5 = .ok (.ifCond .eq 7, 3) := by decide +kernel
theorem d_M_bit_8 : decode prog_10_method_30_code 8 = .ok (.iconst 0, 1) := by decide +kernel
theorem d_M_bit_9 : decode prog_10_method_30_code 9 = .ok (.goto 4, 3) := by decide +kernel
theorem d_M_bit_12 : decode prog_10_method_30_code 12 = .ok (.iconst 1, 1) := by decide +kernel
theorem d_M_bit_13 : decode prog_10_method_30_code 13 = .ok (.invokevirtual 102, 3) := by decide +kernel
theorem d_M_bit_16 : decode prog_10_method_30_code 16 = .ok (.ifCond .eq 5, 3) := by decide +kernel
theorem d_M_bit_19 : decode prog_10_method_30_code 19 = .ok (.iconst 0, 1) := by decide +kernel
theorem d_M_bit_20 : decode prog_10_method_30_code 20 = .ok (.ireturn, 1) := by decide +kernel
theorem d_M_bit_21 : decode prog_10_method_30_code 21 = .ok (.iload_n 2, 1) := by decide +kernel
theorem d_M_bit_22 : decode prog_10_method_30_code 22 = .ok (.iconst 0, 1) := by decide +kernel
theorem d_M_bit_23 : decode prog_10_method_30_code 23 = .ok (.aload_n 0, 1) := by decide +kernel
theorem d_M_bit_24 : decode prog_10_method_30_code 24 = .ok (.getfield 25, 3) := by decide +kernel
theorem d_M_bit_27 : decode prog_10_method_30_code 27 = .ok (.iload_n 1, 1) := by decide +kernel
theorem d_M_bit_28 : decode prog_10_method_30_code 28 = .ok (.iaload, 1) := by decide +kernel
theorem d_M_bit_29 : decode prog_10_method_30_code 29 = .ok (.iconst 1, 1) := by decide +kernel
theorem d_M_bit_30 : decode prog_10_method_30_code 30 = .ok (.isub, 1) := by decide +kernel
theorem d_M_bit_31 : decode prog_10_method_30_code 31 = .ok (.invokestatic 105, 3) := by decide +kernel
theorem d_M_bit_34 : decode prog_10_method_30_code 34 = .ok (.ifCond .eq 18, 3) := by decide +kernel
theorem d_M_bit_37 : decode prog_10_method_30_code 37 = .ok (.aload_n 0, 1) := by decide +kernel
theorem d_M_bit_38 : decode prog_10_method_30_code 38 = .ok (.getfield 22, 3) := by decide +kernel
theorem d_M_bit_41 : decode prog_10_method_30_code 41 = .ok (.sipush 2640, 3) := by decide +kernel
theorem d_M_bit_44 : decode prog_10_method_30_code 44 = .ok (.iload_n 1, 1) := by decide +kernel
theorem d_M_bit_45 : decode prog_10_method_30_code 45 = .ok (.imul, 1) := by decide +kernel
theorem d_M_bit_46 : decode prog_10_method_30_code 46 = .ok (.iload_n 2, 1) := by decide +kernel
theorem d_M_bit_47 : decode prog_10_method_30_code 47 = .ok (.iadd, 1) := by decide +kernel
theorem d_M_bit_48 : decode prog_10_method_30_code 48 = .ok (.iaload, 1) := by decide +kernel
theorem d_M_bit_49 : decode prog_10_method_30_code 49 = .ok (.goto 4, 3) := by decide +kernel
theorem d_M_bit_52 : decode prog_10_method_30_code 52 = .ok (.iconst (-1), 1) := by decide +kernel
theorem d_M_bit_53 : decode prog_10_method_30_code 53 = .ok (.ireturn, 1) := by decide +kernel
theorem d_M_count_0 : decode prog_10_method_33_code 0 = .ok (.aload_n 0, 1) := by decide +kernel
theorem d_M_count_1 : decode prog_10_method_33_code 1 = .ok (.iload_n 1, 1) := by decide +kernel
theorem d_M_count_2 : decode prog_10_method_33_code 2 = .ok (.invokestatic 135, 3) := by decide +kernel
theorem d_M_count_5 : decode prog_10_method_33_code 5 = .ok (.ifCond .eq 17, 3) := by decide +kernel
theorem d_M_count_8 : decode prog_10_method_33_code 8 = .ok (.iload_n 2, 1) := by decide +kernel
theorem d_M_count_9 : decode prog_10_method_33_code 9 = .ok (.iconst 0, 1) := by decide +kernel
theorem d_M_count_10 : decode prog_10_method_33_code 10 = .ok (.bipush 8, 2) := by decide +kernel
theorem d_M_count_12 : decode prog_10_method_33_code 12 = .ok (.invokestatic 105, 3) := by decide +kernel
theorem d_M_count_15 : decode prog_10_method_33_code 15 = .ok (.ifCond .eq 7, 3) := by decide +kernel
theorem d_M_count_18 : decode prog_10_method_33_code 18 = .ok (.iconst 0, 1) := by decide +kernel
theorem d_M_count_19 : decode prog_10_method_33_code 19 = .ok (.goto 4, 3) := by decide +kernel
theorem d_M_count_22 : decode prog_10_method_33_code 22 = .ok (.iconst 1, 1) := by decide +kernel
theorem d_M_count_23 : decode prog_10_method_33_code 23 = .ok (.invokevirtual 102, 3) := by decide +kernel
theorem d_M_count_26 : decode prog_10_method_33_code 26 = .ok (.ifCond .eq 5, 3) := by decide +kernel
theorem d_M_count_29 : decode prog_10_method_33_code 29 = .ok (.iconst 0, 1) := by decide +kernel
theorem d_M_count_30 : decode prog_10_method_33_code 30 = .ok (.ireturn, 1) := by decide +kernel
theorem d_M_count_31 : decode prog_10_method_33_code 31 = .ok (.iload_n 2, 1) := by decide +kernel
theorem d_M_count_32 : decode prog_10_method_33_code 32 = .ok (.tableswitch 117 0 7 #[48, 55, 62, 77, 84, 91, 98, 111], 48) := by decide +kernel
theorem d_M_count_80 : decode prog_10_method_33_code 80 = .ok (.aload_n 0, 1) := by decide +kernel
theorem d_M_count_81 : decode prog_10_method_33_code 81 = .ok (.getfield 25, 3) := by decide +kernel
theorem d_M_count_84 : decode prog_10_method_33_code 84 = .ok (.iload_n 1, 1) := by decide +kernel
theorem d_M_count_85 : decode prog_10_method_33_code 85 = .ok (.iaload, 1) := by decide +kernel
theorem d_M_count_86 : decode prog_10_method_33_code 86 = .ok (.ireturn, 1) := by decide +kernel
theorem d_M_count_87 : decode prog_10_method_33_code 87 = .ok (.aload_n 0, 1) := by decide +kernel
theorem d_M_count_88 : decode prog_10_method_33_code 88 = .ok (.getfield 28, 3) := by decide +kernel
theorem d_M_count_91 : decode prog_10_method_33_code 91 = .ok (.iload_n 1, 1) := by decide +kernel
theorem d_M_count_92 : decode prog_10_method_33_code 92 = .ok (.iaload, 1) := by decide +kernel
theorem d_M_count_93 : decode prog_10_method_33_code 93 = .ok (.ireturn, 1) := by decide +kernel
theorem d_M_count_94 : decode prog_10_method_33_code 94 = .ok (.aload_n 0, 1) := by decide +kernel
theorem d_M_count_95 : decode prog_10_method_33_code 95 = .ok (.getfield 31, 3) := by decide +kernel
theorem d_M_count_98 : decode prog_10_method_33_code 98 = .ok (.iload_n 1, 1) := by decide +kernel
theorem d_M_count_99 : decode prog_10_method_33_code 99 = .ok (.baload, 1) := by decide +kernel
theorem d_M_count_100 : decode prog_10_method_33_code 100 = .ok (.ifCond .eq 7, 3) := by decide +kernel
theorem d_M_count_103 : decode prog_10_method_33_code 103 = .ok (.iconst 1, 1) := by decide +kernel
theorem d_M_count_104 : decode prog_10_method_33_code 104 = .ok (.goto 4, 3) := by decide +kernel
theorem d_M_count_107 : decode prog_10_method_33_code 107 = .ok (.iconst 0, 1) := by decide +kernel
theorem d_M_count_108 : decode prog_10_method_33_code 108 = .ok (.ireturn, 1) := by decide +kernel
theorem d_M_count_109 : decode prog_10_method_33_code 109 = .ok (.aload_n 0, 1) := by decide +kernel
theorem d_M_count_110 : decode prog_10_method_33_code 110 = .ok (.getfield 35, 3) := by decide +kernel
theorem d_M_count_113 : decode prog_10_method_33_code 113 = .ok (.iload_n 1, 1) := by decide +kernel
theorem d_M_count_114 : decode prog_10_method_33_code 114 = .ok (.iaload, 1) := by decide +kernel
theorem d_M_count_115 : decode prog_10_method_33_code 115 = .ok (.ireturn, 1) := by decide +kernel
theorem d_M_count_116 : decode prog_10_method_33_code 116 = .ok (.aload_n 0, 1) := by decide +kernel
theorem d_M_count_117 : decode prog_10_method_33_code 117 = .ok (.getfield 38, 3) := by decide +kernel
theorem d_M_count_120 : decode prog_10_method_33_code 120 = .ok (.iload_n 1, 1) := by decide +kernel
theorem d_M_count_121 : decode prog_10_method_33_code 121 = .ok (.iaload, 1) := by decide +kernel
theorem d_M_count_122 : decode prog_10_method_33_code 122 = .ok (.ireturn, 1) := by decide +kernel
theorem d_M_count_123 : decode prog_10_method_33_code 123 = .ok (.aload_n 0, 1) := by decide +kernel
theorem d_M_count_124 : decode prog_10_method_33_code 124 = .ok (.getfield 41, 3) := by decide +kernel
theorem d_M_count_127 : decode prog_10_method_33_code 127 = .ok (.iload_n 1, 1) := by decide +kernel
theorem d_M_count_128 : decode prog_10_method_33_code 128 = .ok (.iaload, 1) := by decide +kernel
theorem d_M_count_129 : decode prog_10_method_33_code 129 = .ok (.ireturn, 1) := by decide +kernel
theorem d_M_count_130 : decode prog_10_method_33_code 130 = .ok (.iload_n 1, 1) := by decide +kernel
theorem d_M_count_131 : decode prog_10_method_33_code 131 = .ok (.ifCond .ne 10, 3) := by decide +kernel
theorem d_M_count_134 : decode prog_10_method_33_code 134 = .ok (.aload_n 0, 1) := by decide +kernel
theorem d_M_count_135 : decode prog_10_method_33_code 135 = .ok (.getfield 65, 3) := by decide +kernel
theorem d_M_count_138 : decode prog_10_method_33_code 138 = .ok (.goto 4, 3) := by decide +kernel
theorem d_M_count_141 : decode prog_10_method_33_code 141 = .ok (.iconst 0, 1) := by decide +kernel
theorem d_M_count_142 : decode prog_10_method_33_code 142 = .ok (.ireturn, 1) := by decide +kernel
theorem d_M_count_143 : decode prog_10_method_33_code 143 = .ok (.aload_n 0, 1) := by decide +kernel
theorem d_M_count_144 : decode prog_10_method_33_code 144 = .ok (.iload_n 1, 1) := by decide +kernel
theorem d_M_count_145 : decode prog_10_method_33_code 145 = .ok (.invokevirtual 138, 3) := by decide +kernel
theorem d_M_count_148 : decode prog_10_method_33_code 148 = .ok (.ireturn, 1) := by decide +kernel
theorem d_M_count_149 : decode prog_10_method_33_code 149 = .ok (.aload_n 0, 1) := by decide +kernel
theorem d_M_count_150 : decode prog_10_method_33_code 150 = .ok (.iload_n 1, 1) := by decide +kernel
theorem d_M_count_151 : decode prog_10_method_33_code 151 = .ok (.invokevirtual 141, 3) := by decide +kernel
theorem d_M_count_154 : decode prog_10_method_33_code 154 = .ok (.ireturn, 1) := by decide +kernel
theorem d_M_balance_0 : decode prog_10_method_31_code 0 = .ok (.iconst 0, 1) := by decide +kernel
theorem d_M_balance_1 : decode prog_10_method_31_code 1 = .ok (.istore_n 2, 1) := by decide +kernel
theorem d_M_balance_2 : decode prog_10_method_31_code 2 = .ok (.iconst 0, 1) := by decide +kernel
theorem d_M_balance_3 : decode prog_10_method_31_code 3 = .ok (.istore_n 3, 1) := by decide +kernel
theorem d_M_balance_4 : decode prog_10_method_31_code 4 = .ok (.iload_n 3, 1) := by decide +kernel
theorem d_M_balance_5 : decode prog_10_method_31_code 5 = .ok (.aload_n 0, 1) := by decide +kernel
theorem d_M_balance_6 : decode prog_10_method_31_code 6 = .ok (.getfield 25, 3) := by decide +kernel
theorem d_M_balance_9 : decode prog_10_method_31_code 9 = .ok (.iload_n 1, 1) := by decide +kernel
theorem d_M_balance_10 : decode prog_10_method_31_code 10 = .ok (.iaload, 1) := by decide +kernel
theorem d_M_balance_11 : decode prog_10_method_31_code 11 = .ok (.if_icmp .ge 28, 3) := by decide +kernel
theorem d_M_balance_14 : decode prog_10_method_31_code 14 = .ok (.iload_n 2, 1) := by decide +kernel
theorem d_M_balance_15 : decode prog_10_method_31_code 15 = .ok (.iconst 2, 1) := by decide +kernel
theorem d_M_balance_16 : decode prog_10_method_31_code 16 = .ok (.aload_n 0, 1) := by decide +kernel
theorem d_M_balance_17 : decode prog_10_method_31_code 17 = .ok (.getfield 22, 3) := by decide +kernel
theorem d_M_balance_20 : decode prog_10_method_31_code 20 = .ok (.sipush 2640, 3) := by decide +kernel
theorem d_M_balance_23 : decode prog_10_method_31_code 23 = .ok (.iload_n 1, 1) := by decide +kernel
theorem d_M_balance_24 : decode prog_10_method_31_code 24 = .ok (.imul, 1) := by decide +kernel
theorem d_M_balance_25 : decode prog_10_method_31_code 25 = .ok (.iload_n 3, 1) := by decide +kernel
theorem d_M_balance_26 : decode prog_10_method_31_code 26 = .ok (.iadd, 1) := by decide +kernel
theorem d_M_balance_27 : decode prog_10_method_31_code 27 = .ok (.iaload, 1) := by decide +kernel
theorem d_M_balance_28 : decode prog_10_method_31_code 28 = .ok (.imul, 1) := by decide +kernel
theorem d_M_balance_29 : decode prog_10_method_31_code 29 = .ok (.iadd, 1) := by decide +kernel
theorem d_M_balance_30 : decode prog_10_method_31_code 30 = .ok (.iconst 1, 1) := by decide +kernel
theorem d_M_balance_31 : decode prog_10_method_31_code 31 = .ok (.isub, 1) := by decide +kernel
theorem d_M_balance_32 : decode prog_10_method_31_code 32 = .ok (.istore_n 2, 1) := by decide +kernel
theorem d_M_balance_33 : decode prog_10_method_31_code 33 = .ok (.iinc 3 1, 3) := by decide +kernel
theorem d_M_balance_36 : decode prog_10_method_31_code 36 = .ok (.goto (-32), 3) := by decide +kernel
theorem d_M_balance_39 : decode prog_10_method_31_code 39 = .ok (.iload_n 2, 1) := by decide +kernel
theorem d_M_balance_40 : decode prog_10_method_31_code 40 = .ok (.ireturn, 1) := by decide +kernel
theorem d_M_longest_0 : decode prog_10_method_32_code 0 = .ok (.iconst 0, 1) := by decide +kernel
theorem d_M_longest_1 : decode prog_10_method_32_code 1 = .ok (.istore_n 2, 1) := by decide +kernel
theorem d_M_longest_2 : decode prog_10_method_32_code 2 = .ok (.iconst 0, 1) := by decide +kernel
theorem d_M_longest_3 : decode prog_10_method_32_code 3 = .ok (.istore_n 3, 1) := by decide +kernel
theorem d_M_longest_4 : decode prog_10_method_32_code 4 = .ok (.iconst 0, 1) := by decide +kernel
theorem d_M_longest_5 : decode prog_10_method_32_code 5 = .ok (.istore 4, 2) := by decide +kernel
theorem d_M_longest_7 : decode prog_10_method_32_code 7 = .ok (.iload 4, 2) := by decide +kernel
theorem d_M_longest_9 : decode prog_10_method_32_code 9 = .ok (.aload_n 0, 1) := by decide +kernel
theorem d_M_longest_10 : decode prog_10_method_32_code 10 = .ok (.getfield 25, 3) := by decide +kernel
theorem d_M_longest_13 : decode prog_10_method_32_code 13 = .ok (.iload_n 1, 1) := by decide +kernel
theorem d_M_longest_14 : decode prog_10_method_32_code 14 = .ok (.iaload, 1) := by decide +kernel
theorem d_M_longest_15 : decode prog_10_method_32_code 15 = .ok (.if_icmp .ge 76, 3) := by decide +kernel
theorem d_M_longest_18 : decode prog_10_method_32_code 18 = .ok (.iload 4, 2) := by decide +kernel
theorem d_M_longest_20 : decode prog_10_method_32_code 20 = .ok (.ifCond .le 38, 3) := by decide +kernel
theorem d_M_longest_23 : decode prog_10_method_32_code 23 = .ok (.aload_n 0, 1) := by decide +kernel
theorem d_M_longest_24 : decode prog_10_method_32_code 24 = .ok (.getfield 22, 3) := by decide +kernel
theorem d_M_longest_27 : decode prog_10_method_32_code 27 = .ok (.sipush 2640, 3) := by decide +kernel
theorem d_M_longest_30 : decode prog_10_method_32_code 30 = .ok (.iload_n 1, 1) := by decide +kernel
theorem d_M_longest_31 : decode prog_10_method_32_code 31 = .ok (.imul, 1) := by decide +kernel
theorem d_M_longest_32 : decode prog_10_method_32_code 32 = .ok (.iload 4, 2) := by decide +kernel
theorem d_M_longest_34 : decode prog_10_method_32_code 34 = .ok (.iadd, 1) := by decide +kernel
theorem d_M_longest_35 : decode prog_10_method_32_code 35 = .ok (.iaload, 1) := by decide +kernel
theorem d_M_longest_36 : decode prog_10_method_32_code 36 = .ok (.aload_n 0, 1) := by decide +kernel
theorem d_M_longest_37 : decode prog_10_method_32_code 37 = .ok (.getfield 22, 3) := by decide +kernel
theorem d_M_longest_40 : decode prog_10_method_32_code 40 = .ok (.sipush 2640, 3) := by decide +kernel
theorem d_M_longest_43 : decode prog_10_method_32_code 43 = .ok (.iload_n 1, 1) := by decide +kernel
theorem d_M_longest_44 : decode prog_10_method_32_code 44 = .ok (.imul, 1) := by decide +kernel
theorem d_M_longest_45 : decode prog_10_method_32_code 45 = .ok (.iload 4, 2) := by decide +kernel
theorem d_M_longest_47 : decode prog_10_method_32_code 47 = .ok (.iadd, 1) := by decide +kernel
theorem d_M_longest_48 : decode prog_10_method_32_code 48 = .ok (.iconst 1, 1) := by decide +kernel
theorem d_M_longest_49 : decode prog_10_method_32_code 49 = .ok (.isub, 1) := by decide +kernel
theorem d_M_longest_50 : decode prog_10_method_32_code 50 = .ok (.iaload, 1) := by decide +kernel
theorem d_M_longest_51 : decode prog_10_method_32_code 51 = .ok (.if_icmp .ne 7, 3) := by decide +kernel
theorem d_M_longest_54 : decode prog_10_method_32_code 54 = .ok (.iconst 1, 1) := by decide +kernel
theorem d_M_longest_55 : decode prog_10_method_32_code 55 = .ok (.goto 4, 3) := by decide +kernel
theorem d_M_longest_58 : decode prog_10_method_32_code 58 = .ok (.iconst 0, 1) := by decide +kernel
theorem d_M_longest_59 : decode prog_10_method_32_code 59 = .ok (.istore 5, 2) := by decide +kernel
theorem d_M_longest_61 : decode prog_10_method_32_code 61 = .ok (.iload 5, 2) := by decide +kernel
theorem d_M_longest_63 : decode prog_10_method_32_code 63 = .ok (.ifCond .eq 9, 3) := by decide +kernel
theorem d_M_longest_66 : decode prog_10_method_32_code 66 = .ok (.iload_n 3, 1) := by decide +kernel
theorem d_M_longest_67 : decode prog_10_method_32_code 67 = .ok (.iconst 1, 1) := by decide +kernel
theorem d_M_longest_68 : decode prog_10_method_32_code 68 = .ok (.iadd, 1) := by decide +kernel
theorem d_M_longest_69 : decode prog_10_method_32_code 69 = .ok (.goto 4, 3) := by decide +kernel
theorem d_M_longest_72 : decode prog_10_method_32_code 72 = .ok (.iconst 1, 1) := by decide +kernel
theorem d_M_longest_73 : decode prog_10_method_32_code 73 = .ok (.istore_n 3, 1) := by decide +kernel
theorem d_M_longest_74 : decode prog_10_method_32_code 74 = .ok (.iload_n 3, 1) := by decide +kernel
theorem d_M_longest_75 : decode prog_10_method_32_code 75 = .ok (.iload_n 2, 1) := by decide +kernel
theorem d_M_longest_76 : decode prog_10_method_32_code 76 = .ok (.if_icmp .le 7, 3) := by decide +kernel
theorem d_M_longest_79 : decode prog_10_method_32_code 79 = .ok (.iload_n 3, 1) := by decide +kernel
theorem d_M_longest_80 : decode prog_10_method_32_code 80 = .ok (.goto 4, 3) := by decide +kernel
theorem d_M_longest_83 : decode prog_10_method_32_code 83 = .ok (.iload_n 2, 1) := by decide +kernel
theorem d_M_longest_84 : decode prog_10_method_32_code 84 = .ok (.istore_n 2, 1) := by decide +kernel
theorem d_M_longest_85 : decode prog_10_method_32_code 85 = .ok (.iinc 4 1, 3) := by decide +kernel
theorem d_M_longest_88 : decode prog_10_method_32_code 88 = .ok (.goto (-81), 3) := by decide +kernel
theorem d_M_longest_91 : decode prog_10_method_32_code 91 = .ok (.iload_n 2, 1) := by decide +kernel
theorem d_M_longest_92 : decode prog_10_method_32_code 92 = .ok (.ireturn, 1) := by decide +kernel
theorem d_M_isPlus_0 : decode prog_10_method_34_code 0 = .ok (.aload_n 0, 1) := by decide +kernel
theorem d_M_isPlus_1 : decode prog_10_method_34_code 1 = .ok (.iconst 0, 1) := by decide +kernel
theorem d_M_isPlus_2 : decode prog_10_method_34_code 2 = .ok (.putfield 61, 3) := by decide +kernel
theorem d_M_isPlus_5 : decode prog_10_method_34_code 5 = .ok (.iload_n 1, 1) := by decide +kernel
theorem d_M_isPlus_6 : decode prog_10_method_34_code 6 = .ok (.ifCond .eq 10, 3) := by decide +kernel
theorem d_M_isPlus_9 : decode prog_10_method_34_code 9 = .ok (.aload_n 0, 1) := by decide +kernel
theorem d_M_isPlus_10 : decode prog_10_method_34_code 10 = .ok (.getfield 68, 3) := by decide +kernel
theorem d_M_isPlus_13 : decode prog_10_method_34_code 13 = .ok (.goto 7, 3) := by decide +kernel
theorem d_M_isPlus_16 : decode prog_10_method_34_code 16 = .ok (.aload_n 0, 1) := by decide +kernel
theorem d_M_isPlus_17 : decode prog_10_method_34_code 17 = .ok (.getfield 72, 3) := by decide +kernel
theorem d_M_isPlus_20 : decode prog_10_method_34_code 20 = .ok (.ireturn, 1) := by decide +kernel
end
section
theorem d_Q_code_0 : decode method_3_code 0 = .ok (.aload_n 3, 1) := by decide +kernel
theorem d_Q_code_1 : decode method_3_code 1 = .ok (.iconst 0, 1) := by decide +kernel
theorem d_Q_code_2 : decode method_3_code 2 = .ok (.aload_n 0, 1) := by decide +kernel
theorem d_Q_code_3 : decode method_3_code 3 = .ok (.iload_n 1, 1) := by decide +kernel
theorem d_Q_code_4 : decode method_3_code 4 = .ok (.iload_n 2, 1) := by decide +kernel
theorem d_Q_code_5 : decode method_3_code 5 = .ok (.invokevirtual 7, 3) := by decide +kernel
theorem d_Q_code_8 : decode method_3_code 8 = .ok (.i2l, 1) := by decide +kernel
theorem d_Q_code_9 : decode method_3_code 9 = .ok (.lastore, 1) := by decide +kernel
theorem d_Q_code_10 : decode method_3_code 10 = .ok (.goto 7, 3) := by decide +kernel
theorem d_Q_code_13 : decode method_3_code 13 = .ok (.astore 4, 2) := by decide +kernel
theorem d_Q_code_15 : decode method_3_code 15 = .ok (.iconst 1, 1) := by decide +kernel
theorem d_Q_code_16 : decode method_3_code 16 = .ok (.ireturn, 1) := by decide +kernel
theorem d_Q_code_17 : decode method_3_code 17 = .ok (.iconst 0, 1) := by decide +kernel
theorem d_Q_code_18 : decode method_3_code 18 = .ok (.ireturn, 1) := by decide +kernel
theorem d_Q_symbol_0 : decode method_4_code 0 = .ok (.aload_n 2, 1) := by decide +kernel
theorem d_Q_symbol_1 : decode method_4_code 1 = .ok (.iconst 0, 1) := by decide +kernel
theorem d_Q_symbol_2 : decode method_4_code 2 = .ok (.aload_n 0, 1) := by decide +kernel
theorem d_Q_symbol_3 : decode method_4_code 3 = .ok (.iload_n 1, 1) := by decide +kernel
theorem d_Q_symbol_4 : decode method_4_code 4 = .ok (.invokevirtual 15, 3) := by decide +kernel
theorem d_Q_symbol_7 : decode method_4_code 7 = .ok (.i2l, 1) := by decide +kernel
theorem d_Q_symbol_8 : decode method_4_code 8 = .ok (.lastore, 1) := by decide +kernel
theorem d_Q_symbol_9 : decode method_4_code 9 = .ok (.goto 6, 3) := by decide +kernel
theorem d_Q_symbol_12 : decode method_4_code 12 = .ok (.astore_n 3, 1) := by decide +kernel
theorem d_Q_symbol_13 : decode method_4_code 13 = .ok (.iconst 1, 1) := by decide +kernel
theorem d_Q_symbol_14 : decode method_4_code 14 = .ok (.ireturn, 1) := by decide +kernel
theorem d_Q_symbol_15 : decode method_4_code 15 = .ok (.iconst 0, 1) := by decide +kernel
theorem d_Q_symbol_16 : decode method_4_code 16 = .ok (.ireturn, 1) := by decide +kernel
theorem d_Q_send_0 : decode method_5_code 0 = .ok (.aload_n 2, 1) := by decide +kernel
theorem d_Q_send_1 : decode method_5_code 1 = .ok (.iconst 0, 1) := by decide +kernel
theorem d_Q_send_2 : decode method_5_code 2 = .ok (.aload_n 0, 1) := by decide +kernel
theorem d_Q_send_3 : decode method_5_code 3 = .ok (.iload_n 1, 1) := by decide +kernel
theorem d_Q_send_4 : decode method_5_code 4 = .ok (.invokevirtual 19, 3) := by decide +kernel
theorem d_Q_send_7 : decode method_5_code 7 = .ok (.i2l, 1) := by decide +kernel
theorem d_Q_send_8 : decode method_5_code 8 = .ok (.lastore, 1) := by decide +kernel
theorem d_Q_send_9 : decode method_5_code 9 = .ok (.goto 9, 3) := by decide +kernel
theorem d_Q_send_12 : decode method_5_code 12 = .ok (.astore_n 3, 1) := by decide +kernel
theorem d_Q_send_13 : decode method_5_code 13 = .ok (.iconst 1, 1) := by decide +kernel
theorem d_Q_send_14 : decode method_5_code 14 = .ok (.ireturn, 1) := by decide +kernel
theorem d_Q_send_15 : decode method_5_code 15 = .ok (.astore_n 3, 1) := by decide +kernel
theorem d_Q_send_16 : decode method_5_code 16 = .ok (.iconst 2, 1) := by decide +kernel
theorem d_Q_send_17 : decode method_5_code 17 = .ok (.ireturn, 1) := by decide +kernel
theorem d_Q_send_18 : decode method_5_code 18 = .ok (.iconst 0, 1) := by decide +kernel
theorem d_Q_send_19 : decode method_5_code 19 = .ok (.ireturn, 1) := by decide +kernel
theorem d_Q_put_0 : decode method_6_code 0 = .ok (.aload 4, 2) := by decide +kernel
theorem d_Q_put_2 : decode method_6_code 2 = .ok (.iconst 0, 1) := by decide +kernel
theorem d_Q_put_3 : decode method_6_code 3 = .ok (.aload_n 0, 1) := by decide +kernel
theorem d_Q_put_4 : decode method_6_code 4 = .ok (.lload_n 1, 1) := by decide +kernel
theorem d_Q_put_5 : decode method_6_code 5 = .ok (.iload_n 3, 1) := by decide +kernel
theorem d_Q_put_6 : decode method_6_code 6 = .ok (.invokevirtual 24, 3) := by decide +kernel
theorem d_Q_put_9 : decode method_6_code 9 = .ok (.i2l, 1) := by decide +kernel
theorem d_Q_put_10 : decode method_6_code 10 = .ok (.lastore, 1) := by decide +kernel
theorem d_Q_put_11 : decode method_6_code 11 = .ok (.goto 7, 3) := by decide +kernel
theorem d_Q_put_14 : decode method_6_code 14 = .ok (.astore 5, 2) := by decide +kernel
theorem d_Q_put_16 : decode method_6_code 16 = .ok (.iconst 1, 1) := by decide +kernel
theorem d_Q_put_17 : decode method_6_code 17 = .ok (.ireturn, 1) := by decide +kernel
theorem d_Q_put_18 : decode method_6_code 18 = .ok (.iconst 0, 1) := by decide +kernel
theorem d_Q_put_19 : decode method_6_code 19 = .ok (.ireturn, 1) := by decide +kernel
theorem d_Q_raw_0 : decode method_7_code 0 = .ok (.aload 4, 2) := by decide +kernel
theorem d_Q_raw_2 : decode method_7_code 2 = .ok (.iconst 0, 1) := by decide +kernel
theorem d_Q_raw_3 : decode method_7_code 3 = .ok (.aload_n 0, 1) := by decide +kernel
theorem d_Q_raw_4 : decode method_7_code 4 = .ok (.iload_n 1, 1) := by decide +kernel
theorem d_Q_raw_5 : decode method_7_code 5 = .ok (.iload_n 2, 1) := by decide +kernel
theorem d_Q_raw_6 : decode method_7_code 6 = .ok (.iload_n 3, 1) := by decide +kernel
theorem d_Q_raw_7 : decode method_7_code 7 = .ok (.invokevirtual 28, 3) := by decide +kernel
theorem d_Q_raw_10 : decode method_7_code 10 = .ok (.i2l, 1) := by decide +kernel
theorem d_Q_raw_11 : decode method_7_code 11 = .ok (.lastore, 1) := by decide +kernel
theorem d_Q_raw_12 : decode method_7_code 12 = .ok (.goto 11, 3) := by decide +kernel
theorem d_Q_raw_15 : decode method_7_code 15 = .ok (.astore 5, 2) := by decide +kernel
theorem d_Q_raw_17 : decode method_7_code 17 = .ok (.iconst 1, 1) := by decide +kernel
theorem d_Q_raw_18 : decode method_7_code 18 = .ok (.ireturn, 1) := by decide +kernel
theorem d_Q_raw_19 : decode method_7_code 19 = .ok (.astore 5, 2) := by decide +kernel
theorem d_Q_raw_21 : decode method_7_code 21 = .ok (.iconst 2, 1) := by decide +kernel
theorem d_Q_raw_22 : decode method_7_code 22 = .ok (.ireturn, 1) := by decide +kernel
theorem d_Q_raw_23 : decode method_7_code 23 = .ok (.iconst 0, 1) := by decide +kernel
theorem d_Q_raw_24 : decode method_7_code 24 = .ok (.ireturn, 1) := by decide +kernel
theorem d_Q_bend_0 : decode method_8_code 0 = .ok (.aload_n 3, 1) := by decide +kernel
theorem d_Q_bend_1 : decode method_8_code 1 = .ok (.iconst 0, 1) := by decide +kernel
theorem d_Q_bend_2 : decode method_8_code 2 = .ok (.aload_n 0, 1) := by decide +kernel
theorem d_Q_bend_3 : decode method_8_code 3 = .ok (.iload_n 1, 1) := by decide +kernel
theorem d_Q_bend_4 : decode method_8_code 4 = .ok (.iload_n 2, 1) := by decide +kernel
theorem d_Q_bend_5 : decode method_8_code 5 = .ok (.invokevirtual 32, 3) := by decide +kernel
theorem d_Q_bend_8 : decode method_8_code 8 = .ok (.ifCond .eq 7, 3) := by decide +kernel
theorem d_Q_bend_11 : decode method_8_code 11 = .ok (.lconst 1, 1) := by decide +kernel
theorem d_Q_bend_12 : decode method_8_code 12 = .ok (.goto 4, 3) := by decide +kernel
theorem d_Q_bend_15 : decode method_8_code 15 = .ok (.lconst 0, 1) := by decide +kernel
theorem d_Q_bend_16 : decode method_8_code 16 = .ok (.lastore, 1) := by decide +kernel
theorem d_Q_bend_17 : decode method_8_code 17 = .ok (.goto 11, 3) := by decide +kernel
theorem d_Q_bend_20 : decode method_8_code 20 = .ok (.astore 4, 2) := by decide +kernel
theorem d_Q_bend_22 : decode method_8_code 22 = .ok (.iconst 1, 1) := by decide +kernel
theorem d_Q_bend_23 : decode method_8_code 23 = .ok (.ireturn, 1) := by decide +kernel
theorem d_Q_bend_24 : decode method_8_code 24 = .ok (.astore 4, 2) := by decide +kernel
theorem d_Q_bend_26 : decode method_8_code 26 = .ok (.iconst 2, 1) := by decide +kernel
theorem d_Q_bend_27 : decode method_8_code 27 = .ok (.ireturn, 1) := by decide +kernel
theorem d_Q_bend_28 : decode method_8_code 28 = .ok (.iconst 0, 1) := by decide +kernel
theorem d_Q_bend_29 : decode method_8_code 29 = .ok (.ireturn, 1) := by decide +kernel
theorem d_Q_lose_0 : decode method_9_code 0 = .ok (.aload 4, 2) := by decide +kernel
theorem d_Q_lose_2 : decode method_9_code 2 = .ok (.iconst 0, 1) := by decide +kernel
theorem d_Q_lose_3 : decode method_9_code 3 = .ok (.aload_n 0, 1) := by decide +kernel
theorem d_Q_lose_4 : decode method_9_code 4 = .ok (.iload_n 1, 1) := by decide +kernel
theorem d_Q_lose_5 : decode method_9_code 5 = .ok (.iload_n 2, 1) := by decide +kernel
theorem d_Q_lose_6 : decode method_9_code 6 = .ok (.iload_n 3, 1) := by decide +kernel
theorem d_Q_lose_7 : decode method_9_code 7 = .ok (.invokevirtual 38, 3) := by decide +kernel
theorem d_Q_lose_10 : decode method_9_code 10 = .ok (.i2l, 1) := by decide +kernel
theorem d_Q_lose_11 : decode method_9_code 11 = .ok (.lastore, 1) := by decide +kernel
theorem d_Q_lose_12 : decode method_9_code 12 = .ok (.goto 7, 3) := by decide +kernel
theorem d_Q_lose_15 : decode method_9_code 15 = .ok (.astore 5, 2) := by decide +kernel
theorem d_Q_lose_17 : decode method_9_code 17 = .ok (.iconst 1, 1) := by decide +kernel
theorem d_Q_lose_18 : decode method_9_code 18 = .ok (.ireturn, 1) := by decide +kernel
theorem d_Q_lose_19 : decode method_9_code 19 = .ok (.iconst 0, 1) := by decide +kernel
theorem d_Q_lose_20 : decode method_9_code 20 = .ok (.ireturn, 1) := by decide +kernel
theorem d_Q_bit_0 : decode method_10_code 0 = .ok (.aload_n 3, 1) := by decide +kernel
theorem d_Q_bit_1 : decode method_10_code 1 = .ok (.iconst 0, 1) := by decide +kernel
theorem d_Q_bit_2 : decode method_10_code 2 = .ok (.aload_n 0, 1) := by decide +kernel
theorem d_Q_bit_3 : decode method_10_code 3 = .ok (.iload_n 1, 1) := by decide +kernel
theorem d_Q_bit_4 : decode method_10_code 4 = .ok (.iload_n 2, 1) := by decide +kernel
theorem d_Q_bit_5 : decode method_10_code 5 = .ok (.invokevirtual 41, 3) := by decide +kernel
theorem d_Q_bit_8 : decode method_10_code 8 = .ok (.i2l, 1) := by decide +kernel
theorem d_Q_bit_9 : decode method_10_code 9 = .ok (.lastore, 1) := by decide +kernel
theorem d_Q_bit_10 : decode method_10_code 10 = .ok (.goto 7, 3) := by decide +kernel
theorem d_Q_bit_13 : decode method_10_code 13 = .ok (.astore 4, 2) := by decide +kernel
theorem d_Q_bit_15 : decode method_10_code 15 = .ok (.iconst 1, 1) := by decide +kernel
theorem d_Q_bit_16 : decode method_10_code 16 = .ok (.ireturn, 1) := by decide +kernel
theorem d_Q_bit_17 : decode method_10_code 17 = .ok (.iconst 0, 1) := by decide +kernel
theorem d_Q_bit_18 : decode method_10_code 18 = .ok (.ireturn, 1) := by decide +kernel
theorem d_Q_count_0 : decode method_11_code 0 = .ok (.aload_n 3, 1) := by decide +kernel
theorem d_Q_count_1 : decode method_11_code 1 = .ok (.iconst 0, 1) := by decide +kernel
theorem d_Q_count_2 : decode method_11_code 2 = .ok (.aload_n 0, 1) := by decide +kernel
theorem d_Q_count_3 : decode method_11_code 3 = .ok (.iload_n 1, 1) := by decide +kernel
theorem d_Q_count_4 : decode method_11_code 4 = .ok (.iload_n 2, 1) := by decide +kernel
theorem d_Q_count_5 : decode method_11_code 5 = .ok (.invokevirtual 45, 3) := by decide +kernel
theorem d_Q_count_8 : decode method_11_code 8 = .ok (.i2l, 1) := by decide +kernel
theorem d_Q_count_9 : decode method_11_code 9 = .ok (.lastore, 1) := by decide +kernel
theorem d_Q_count_10 : decode method_11_code 10 = .ok (.goto 7, 3) := by decide +kernel
theorem d_Q_count_13 : decode method_11_code 13 = .ok (.astore 4, 2) := by decide +kernel
theorem d_Q_count_15 : decode method_11_code 15 = .ok (.iconst 1, 1) := by decide +kernel
theorem d_Q_count_16 : decode method_11_code 16 = .ok (.ireturn, 1) := by decide +kernel
theorem d_Q_count_17 : decode method_11_code 17 = .ok (.iconst 0, 1) := by decide +kernel
theorem d_Q_count_18 : decode method_11_code 18 = .ok (.ireturn, 1) := by decide +kernel
theorem d_law_0 : decode code 0 = .ok (.new 8, 3) := by decide +kernel
theorem d_law_3 : decode code 3 = .ok (.dup, 1) := by decide +kernel
theorem d_law_4 : decode code 4 = .ok (.invokespecial 48, 3) := by decide +kernel
theorem d_law_7 : decode code 7 = .ok (.astore_n 1, 1) := by decide +kernel
theorem d_law_8 : decode code 8 = .ok (.new 49, 3) := by decide +kernel
theorem d_law_11 : decode code 11 = .ok (.dup, 1) := by decide +kernel
theorem d_law_12 : decode code 12 = .ok (.invokespecial 51, 3) := by decide +kernel
theorem d_law_15 : decode code 15 = .ok (.astore_n 2, 1) := by decide +kernel
theorem d_law_16 : decode code 16 = .ok (.iconst 1, 1) := by decide +kernel
theorem d_law_17 : decode code 17 = .ok (.newarray .long, 2) := by decide +kernel
theorem d_law_19 : decode code 19 = .ok (.astore_n 3, 1) := by decide +kernel
theorem d_law_20 : decode code 20 = .ok (.iconst 0, 1) := by decide +kernel
theorem d_law_21 : decode code 21 = .ok (.istore 4, 2) := by decide +kernel
theorem d_law_23 : decode code 23 = .ok (.iload 4, 2) := by decide +kernel
theorem d_law_25 : decode code 25 = .ok (.aload_n 0, 1) := by decide +kernel
theorem d_law_26 : decode code 26 = .ok (.arraylength, 1) := by decide +kernel
theorem d_law_27 : decode code 27 = .ok (.iconst 4, 1) := by decide +kernel
theorem d_law_28 : decode code 28 = .ok (.isub, 1) := by decide +kernel
theorem d_law_29 : decode code 29 = .ok (.if_icmp .gt 860, 3) := by decide +kernel
theorem d_law_32 : decode code 32 = .ok (.aload_n 0, 1) := by decide +kernel
theorem d_law_33 : decode code 33 = .ok (.iload 4, 2) := by decide +kernel
theorem d_law_35 : decode code 35 = .ok (.iaload, 1) := by decide +kernel
theorem d_law_36 : decode code 36 = .ok (.bipush 15, 2) := by decide +kernel
theorem d_law_38 : decode code 38 = .ok (.iand, 1) := by decide +kernel
theorem d_law_39 : decode code 39 = .ok (.tableswitch 844 0 13 #[69, 153, 209, 265, 278, 394, 407, 421, 501, 576, 656, 724, 792, 833], 69) := by decide +kernel
theorem d_law_108 : decode code 108 = .ok (.aload_n 1, 1) := by decide +kernel
theorem d_law_109 : decode code 109 = .ok (.aload_n 0, 1) := by decide +kernel
theorem d_law_110 : decode code 110 = .ok (.iload 4, 2) := by decide +kernel
theorem d_law_112 : decode code 112 = .ok (.iconst 1, 1) := by decide +kernel
theorem d_law_113 : decode code 113 = .ok (.iadd, 1) := by decide +kernel
theorem d_law_114 : decode code 114 = .ok (.iaload, 1) := by decide +kernel
theorem d_law_115 : decode code 115 = .ok (.aload_n 0, 1) := by decide +kernel
theorem d_law_116 : decode code 116 = .ok (.iload 4, 2) := by decide +kernel
theorem d_law_118 : decode code 118 = .ok (.iconst 2, 1) := by decide +kernel
theorem d_law_119 : decode code 119 = .ok (.iadd, 1) := by decide +kernel
theorem d_law_120 : decode code 120 = .ok (.iaload, 1) := by decide +kernel
theorem d_law_121 : decode code 121 = .ok (.ifCond .eq 7, 3) := by decide +kernel
theorem d_law_124 : decode code 124 = .ok (.iconst 1, 1) := by decide +kernel
theorem d_law_125 : decode code 125 = .ok (.goto 4, 3) := by decide +kernel
theorem d_law_128 : decode code 128 = .ok (.iconst 0, 1) := by decide +kernel
theorem d_law_129 : decode code 129 = .ok (.aload_n 3, 1) := by decide +kernel
theorem d_law_130 : decode code 130 = .ok (.invokestatic 52, 3) := by decide +kernel
theorem d_law_133 : decode code 133 = .ok (.istore 5, 2) := by decide +kernel
theorem d_law_135 : decode code 135 = .ok (.aload_n 2, 1) := by decide +kernel
theorem d_law_136 : decode code 136 = .ok (.aload_n 0, 1) := by decide +kernel
theorem d_law_137 : decode code 137 = .ok (.iload 4, 2) := by decide +kernel
theorem d_law_139 : decode code 139 = .ok (.iconst 1, 1) := by decide +kernel
theorem d_law_140 : decode code 140 = .ok (.iadd, 1) := by decide +kernel
theorem d_law_141 : decode code 141 = .ok (.iaload, 1) := by decide +kernel
theorem d_law_142 : decode code 142 = .ok (.aload_n 0, 1) := by decide +kernel
theorem d_law_143 : decode code 143 = .ok (.iload 4, 2) := by decide +kernel
theorem d_law_145 : decode code 145 = .ok (.iconst 2, 1) := by decide +kernel
theorem d_law_146 : decode code 146 = .ok (.iadd, 1) := by decide +kernel
theorem d_law_147 : decode code 147 = .ok (.iaload, 1) := by decide +kernel
theorem d_law_148 : decode code 148 = .ok (.ifCond .eq 7, 3) := by decide +kernel
theorem d_law_151 : decode code 151 = .ok (.iconst 1, 1) := by decide +kernel
theorem d_law_152 : decode code 152 = .ok (.goto 4, 3) := by decide +kernel
theorem d_law_155 : decode code 155 = .ok (.iconst 0, 1) := by decide +kernel
theorem d_law_156 : decode code 156 = .ok (.invokevirtual 57, 3) := by decide +kernel
theorem d_law_159 : decode code 159 = .ok (.istore 6, 2) := by decide +kernel
theorem d_law_161 : decode code 161 = .ok (.aload_n 2, 1) := by decide +kernel
theorem d_law_162 : decode code 162 = .ok (.invokevirtual 58, 3) := by decide +kernel
theorem d_law_165 : decode code 165 = .ok (.iload 5, 2) := by decide +kernel
theorem d_law_167 : decode code 167 = .ok (.if_icmp .eq 5, 3) := by decide +kernel
theorem d_law_170 : decode code 170 = .ok (.iconst 0, 1) := by decide +kernel
theorem d_law_171 : decode code 171 = .ok (.ireturn, 1) := by decide +kernel
theorem d_law_172 : decode code 172 = .ok (.iload 5, 2) := by decide +kernel
theorem d_law_174 : decode code 174 = .ok (.ifCond .ne 15, 3) := by decide +kernel
theorem d_law_177 : decode code 177 = .ok (.aload_n 3, 1) := by decide +kernel
theorem d_law_178 : decode code 178 = .ok (.iconst 0, 1) := by decide +kernel
theorem d_law_179 : decode code 179 = .ok (.laload, 1) := by decide +kernel
theorem d_law_180 : decode code 180 = .ok (.iload 6, 2) := by decide +kernel
theorem d_law_182 : decode code 182 = .ok (.i2l, 1) := by decide +kernel
theorem d_law_183 : decode code 183 = .ok (.lcmp, 1) := by decide +kernel
theorem d_law_184 : decode code 184 = .ok (.ifCond .eq 5, 3) := by decide +kernel
theorem d_law_187 : decode code 187 = .ok (.iconst 0, 1) := by decide +kernel
theorem d_law_188 : decode code 188 = .ok (.ireturn, 1) := by decide +kernel
theorem d_law_189 : decode code 189 = .ok (.goto 694, 3) := by decide +kernel
theorem d_law_192 : decode code 192 = .ok (.aload_n 1, 1) := by decide +kernel
theorem d_law_193 : decode code 193 = .ok (.aload_n 0, 1) := by decide +kernel
theorem d_law_194 : decode code 194 = .ok (.iload 4, 2) := by decide +kernel
theorem d_law_196 : decode code 196 = .ok (.iconst 1, 1) := by decide +kernel
theorem d_law_197 : decode code 197 = .ok (.iadd, 1) := by decide +kernel
theorem d_law_198 : decode code 198 = .ok (.iaload, 1) := by decide +kernel
theorem d_law_199 : decode code 199 = .ok (.aload_n 3, 1) := by decide +kernel
theorem d_law_200 : decode code 200 = .ok (.invokestatic 62, 3) := by decide +kernel
theorem d_law_203 : decode code 203 = .ok (.istore 5, 2) := by decide +kernel
theorem d_law_205 : decode code 205 = .ok (.aload_n 2, 1) := by decide +kernel
theorem d_law_206 : decode code 206 = .ok (.aload_n 0, 1) := by decide +kernel
theorem d_law_207 : decode code 207 = .ok (.iload 4, 2) := by decide +kernel
theorem d_law_209 : decode code 209 = .ok (.iconst 1, 1) := by decide +kernel
theorem d_law_210 : decode code 210 = .ok (.iadd, 1) := by decide +kernel
theorem d_law_211 : decode code 211 = .ok (.iaload, 1) := by decide +kernel
theorem d_law_212 : decode code 212 = .ok (.invokevirtual 65, 3) := by decide +kernel
theorem d_law_215 : decode code 215 = .ok (.istore 6, 2) := by decide +kernel
theorem d_law_217 : decode code 217 = .ok (.aload_n 2, 1) := by decide +kernel
theorem d_law_218 : decode code 218 = .ok (.invokevirtual 58, 3) := by decide +kernel
theorem d_law_221 : decode code 221 = .ok (.iload 5, 2) := by decide +kernel
theorem d_law_223 : decode code 223 = .ok (.if_icmp .eq 5, 3) := by decide +kernel
theorem d_law_226 : decode code 226 = .ok (.iconst 0, 1) := by decide +kernel
theorem d_law_227 : decode code 227 = .ok (.ireturn, 1) := by decide +kernel
theorem d_law_228 : decode code 228 = .ok (.iload 5, 2) := by decide +kernel
theorem d_law_230 : decode code 230 = .ok (.ifCond .ne 15, 3) := by decide +kernel
theorem d_law_233 : decode code 233 = .ok (.aload_n 3, 1) := by decide +kernel
theorem d_law_234 : decode code 234 = .ok (.iconst 0, 1) := by decide +kernel
theorem d_law_235 : decode code 235 = .ok (.laload, 1) := by decide +kernel
theorem d_law_236 : decode code 236 = .ok (.iload 6, 2) := by decide +kernel
theorem d_law_238 : decode code 238 = .ok (.i2l, 1) := by decide +kernel
theorem d_law_239 : decode code 239 = .ok (.lcmp, 1) := by decide +kernel
theorem d_law_240 : decode code 240 = .ok (.ifCond .eq 5, 3) := by decide +kernel
theorem d_law_243 : decode code 243 = .ok (.iconst 0, 1) := by decide +kernel
theorem d_law_244 : decode code 244 = .ok (.ireturn, 1) := by decide +kernel
theorem d_law_245 : decode code 245 = .ok (.goto 638, 3) := by decide +kernel
theorem d_law_248 : decode code 248 = .ok (.aload_n 1, 1) := by decide +kernel
theorem d_law_249 : decode code 249 = .ok (.aload_n 0, 1) := by decide +kernel
theorem d_law_250 : decode code 250 = .ok (.iload 4, 2) := by decide +kernel
theorem d_law_252 : decode code 252 = .ok (.iconst 1, 1) := by decide +kernel
theorem d_law_253 : decode code 253 = .ok (.iadd, 1) := by decide +kernel
theorem d_law_254 : decode code 254 = .ok (.iaload, 1) := by decide +kernel
theorem d_law_255 : decode code 255 = .ok (.aload_n 3, 1) := by decide +kernel
theorem d_law_256 : decode code 256 = .ok (.invokestatic 66, 3) := by decide +kernel
theorem d_law_259 : decode code 259 = .ok (.istore 5, 2) := by decide +kernel
theorem d_law_261 : decode code 261 = .ok (.aload_n 2, 1) := by decide +kernel
theorem d_law_262 : decode code 262 = .ok (.aload_n 0, 1) := by decide +kernel
theorem d_law_263 : decode code 263 = .ok (.iload 4, 2) := by decide +kernel
theorem d_law_265 : decode code 265 = .ok (.iconst 1, 1) := by decide +kernel
theorem d_law_266 : decode code 266 = .ok (.iadd, 1) := by decide +kernel
theorem d_law_267 : decode code 267 = .ok (.iaload, 1) := by decide +kernel
theorem d_law_268 : decode code 268 = .ok (.invokevirtual 68, 3) := by decide +kernel
theorem d_law_271 : decode code 271 = .ok (.istore 6, 2) := by decide +kernel
theorem d_law_273 : decode code 273 = .ok (.aload_n 2, 1) := by decide +kernel
theorem d_law_274 : decode code 274 = .ok (.invokevirtual 58, 3) := by decide +kernel
theorem d_law_277 : decode code 277 = .ok (.iload 5, 2) := by decide +kernel
theorem d_law_279 : decode code 279 = .ok (.if_icmp .eq 5, 3) := by decide +kernel
theorem d_law_282 : decode code 282 = .ok (.iconst 0, 1) := by decide +kernel
theorem d_law_283 : decode code 283 = .ok (.ireturn, 1) := by decide +kernel
theorem d_law_284 : decode code 284 = .ok (.iload 5, 2) := by decide +kernel
theorem d_law_286 : decode code 286 = .ok (.ifCond .ne 15, 3) := by decide +kernel
theorem d_law_289 : decode code 289 = .ok (.aload_n 3, 1) := by decide +kernel
theorem d_law_290 : decode code 290 = .ok (.iconst 0, 1) := by decide +kernel
theorem d_law_291 : decode code 291 = .ok (.laload, 1) := by decide +kernel
theorem d_law_292 : decode code 292 = .ok (.iload 6, 2) := by decide +kernel
theorem d_law_294 : decode code 294 = .ok (.i2l, 1) := by decide +kernel
theorem d_law_295 : decode code 295 = .ok (.lcmp, 1) := by decide +kernel
theorem d_law_296 : decode code 296 = .ok (.ifCond .eq 5, 3) := by decide +kernel
theorem d_law_299 : decode code 299 = .ok (.iconst 0, 1) := by decide +kernel
theorem d_law_300 : decode code 300 = .ok (.ireturn, 1) := by decide +kernel
theorem d_law_301 : decode code 301 = .ok (.goto 582, 3) := by decide +kernel
theorem d_law_304 : decode code 304 = .ok (.aload_n 1, 1) := by decide +kernel
theorem d_law_305 : decode code 305 = .ok (.invokevirtual 69, 3) := by decide +kernel
theorem d_law_308 : decode code 308 = .ok (.aload_n 2, 1) := by decide +kernel
theorem d_law_309 : decode code 309 = .ok (.invokevirtual 72, 3) := by decide +kernel
theorem d_law_312 : decode code 312 = .ok (.if_icmp .eq 571, 3) := by decide +kernel
theorem d_law_315 : decode code 315 = .ok (.iconst 0, 1) := by decide +kernel
theorem d_law_316 : decode code 316 = .ok (.ireturn, 1) := by decide +kernel
theorem d_law_317 : decode code 317 = .ok (.aload_n 1, 1) := by decide +kernel
theorem d_law_318 : decode code 318 = .ok (.aload_n 0, 1) := by decide +kernel
theorem d_law_319 : decode code 319 = .ok (.iload 4, 2) := by decide +kernel
theorem d_law_321 : decode code 321 = .ok (.iconst 1, 1) := by decide +kernel
theorem d_law_322 : decode code 322 = .ok (.iadd, 1) := by decide +kernel
theorem d_law_323 : decode code 323 = .ok (.iaload, 1) := by decide +kernel
theorem d_law_324 : decode code 324 = .ok (.i2l, 1) := by decide +kernel
theorem d_law_325 : decode code 325 = .ok (.bipush 32, 2) := by decide +kernel
theorem d_law_327 : decode code 327 = .ok (.lshl, 1) := by decide +kernel
theorem d_law_328 : decode code 328 = .ok (.aload_n 0, 1) := by decide +kernel
theorem d_law_329 : decode code 329 = .ok (.iload 4, 2) := by decide +kernel
theorem d_law_331 : decode code 331 = .ok (.iconst 2, 1) := by decide +kernel
theorem d_law_332 : decode code 332 = .ok (.iadd, 1) := by decide +kernel
theorem d_law_333 : decode code 333 = .ok (.iaload, 1) := by decide +kernel
theorem d_law_334 : decode code 334 = .ok (.i2l, 1) := by decide +kernel
theorem d_law_335 : decode code 335 = .ok (.ldc2_w 73, 3) := by decide +kernel
theorem d_law_338 : decode code 338 = .ok (.land, 1) := by decide +kernel
theorem d_law_339 : decode code 339 = .ok (.lor, 1) := by decide +kernel
theorem d_law_340 : decode code 340 = .ok (.aload_n 0, 1) := by decide +kernel
theorem d_law_341 : decode code 341 = .ok (.iload 4, 2) := by decide +kernel
theorem d_law_343 : decode code 343 = .ok (.iconst 3, 1) := by decide +kernel
theorem d_law_344 : decode code 344 = .ok (.iadd, 1) := by decide +kernel
theorem d_law_345 : decode code 345 = .ok (.iaload, 1) := by decide +kernel
theorem d_law_346 : decode code 346 = .ok (.ifCond .eq 7, 3) := by decide +kernel
theorem d_law_349 : decode code 349 = .ok (.iconst 1, 1) := by decide +kernel
theorem d_law_350 : decode code 350 = .ok (.goto 4, 3) := by decide +kernel
theorem d_law_353 : decode code 353 = .ok (.iconst 0, 1) := by decide +kernel
theorem d_law_354 : decode code 354 = .ok (.aload_n 3, 1) := by decide +kernel
theorem d_law_355 : decode code 355 = .ok (.invokestatic 75, 3) := by decide +kernel
theorem d_law_358 : decode code 358 = .ok (.istore 5, 2) := by decide +kernel
theorem d_law_360 : decode code 360 = .ok (.aload_n 2, 1) := by decide +kernel
theorem d_law_361 : decode code 361 = .ok (.aload_n 0, 1) := by decide +kernel
theorem d_law_362 : decode code 362 = .ok (.iload 4, 2) := by decide +kernel
theorem d_law_364 : decode code 364 = .ok (.iconst 1, 1) := by decide +kernel
theorem d_law_365 : decode code 365 = .ok (.iadd, 1) := by decide +kernel
theorem d_law_366 : decode code 366 = .ok (.iaload, 1) := by decide +kernel
theorem d_law_367 : decode code 367 = .ok (.i2l, 1) := by decide +kernel
theorem d_law_368 : decode code 368 = .ok (.bipush 32, 2) := by decide +kernel
theorem d_law_370 : decode code 370 = .ok (.lshl, 1) := by decide +kernel
theorem d_law_371 : decode code 371 = .ok (.aload_n 0, 1) := by decide +kernel
theorem d_law_372 : decode code 372 = .ok (.iload 4, 2) := by decide +kernel
theorem d_law_374 : decode code 374 = .ok (.iconst 2, 1) := by decide +kernel
theorem d_law_375 : decode code 375 = .ok (.iadd, 1) := by decide +kernel
theorem d_law_376 : decode code 376 = .ok (.iaload, 1) := by decide +kernel
theorem d_law_377 : decode code 377 = .ok (.i2l, 1) := by decide +kernel
theorem d_law_378 : decode code 378 = .ok (.ldc2_w 73, 3) := by decide +kernel
theorem d_law_381 : decode code 381 = .ok (.land, 1) := by decide +kernel
theorem d_law_382 : decode code 382 = .ok (.lor, 1) := by decide +kernel
theorem d_law_383 : decode code 383 = .ok (.aload_n 0, 1) := by decide +kernel
theorem d_law_384 : decode code 384 = .ok (.iload 4, 2) := by decide +kernel
theorem d_law_386 : decode code 386 = .ok (.iconst 3, 1) := by decide +kernel
theorem d_law_387 : decode code 387 = .ok (.iadd, 1) := by decide +kernel
theorem d_law_388 : decode code 388 = .ok (.iaload, 1) := by decide +kernel
theorem d_law_389 : decode code 389 = .ok (.ifCond .eq 7, 3) := by decide +kernel
theorem d_law_392 : decode code 392 = .ok (.iconst 1, 1) := by decide +kernel
theorem d_law_393 : decode code 393 = .ok (.goto 4, 3) := by decide +kernel
theorem d_law_396 : decode code 396 = .ok (.iconst 0, 1) := by decide +kernel
theorem d_law_397 : decode code 397 = .ok (.invokevirtual 78, 3) := by decide +kernel
theorem d_law_400 : decode code 400 = .ok (.istore 6, 2) := by decide +kernel
theorem d_law_402 : decode code 402 = .ok (.aload_n 2, 1) := by decide +kernel
theorem d_law_403 : decode code 403 = .ok (.invokevirtual 58, 3) := by decide +kernel
theorem d_law_406 : decode code 406 = .ok (.iload 5, 2) := by decide +kernel
theorem d_law_408 : decode code 408 = .ok (.if_icmp .eq 5, 3) := by decide +kernel
theorem d_law_411 : decode code 411 = .ok (.iconst 0, 1) := by decide +kernel
theorem d_law_412 : decode code 412 = .ok (.ireturn, 1) := by decide +kernel
theorem d_law_413 : decode code 413 = .ok (.iload 5, 2) := by decide +kernel
theorem d_law_415 : decode code 415 = .ok (.ifCond .ne 15, 3) := by decide +kernel
theorem d_law_418 : decode code 418 = .ok (.aload_n 3, 1) := by decide +kernel
theorem d_law_419 : decode code 419 = .ok (.iconst 0, 1) := by decide +kernel
theorem d_law_420 : decode code 420 = .ok (.laload, 1) := by decide +kernel
theorem d_law_421 : decode code 421 = .ok (.iload 6, 2) := by decide +kernel
theorem d_law_423 : decode code 423 = .ok (.i2l, 1) := by decide +kernel
theorem d_law_424 : decode code 424 = .ok (.lcmp, 1) := by decide +kernel
theorem d_law_425 : decode code 425 = .ok (.ifCond .eq 5, 3) := by decide +kernel
theorem d_law_428 : decode code 428 = .ok (.iconst 0, 1) := by decide +kernel
theorem d_law_429 : decode code 429 = .ok (.ireturn, 1) := by decide +kernel
theorem d_law_430 : decode code 430 = .ok (.goto 453, 3) := by decide +kernel
theorem d_law_433 : decode code 433 = .ok (.aload_n 1, 1) := by decide +kernel
theorem d_law_434 : decode code 434 = .ok (.invokevirtual 79, 3) := by decide +kernel
theorem d_law_437 : decode code 437 = .ok (.aload_n 2, 1) := by decide +kernel
theorem d_law_438 : decode code 438 = .ok (.invokevirtual 82, 3) := by decide +kernel
theorem d_law_441 : decode code 441 = .ok (.if_icmp .eq 442, 3) := by decide +kernel
theorem d_law_444 : decode code 444 = .ok (.iconst 0, 1) := by decide +kernel
theorem d_law_445 : decode code 445 = .ok (.ireturn, 1) := by decide +kernel
theorem d_law_446 : decode code 446 = .ok (.aload_n 1, 1) := by decide +kernel
theorem d_law_447 : decode code 447 = .ok (.invokevirtual 83, 3) := by decide +kernel
theorem d_law_450 : decode code 450 = .ok (.aload_n 2, 1) := by decide +kernel
theorem d_law_451 : decode code 451 = .ok (.invokevirtual 87, 3) := by decide +kernel
theorem d_law_454 : decode code 454 = .ok (.lcmp, 1) := by decide +kernel
theorem d_law_455 : decode code 455 = .ok (.ifCond .eq 428, 3) := by decide +kernel
theorem d_law_458 : decode code 458 = .ok (.iconst 0, 1) := by decide +kernel
theorem d_law_459 : decode code 459 = .ok (.ireturn, 1) := by decide +kernel
theorem d_law_460 : decode code 460 = .ok (.aload_n 1, 1) := by decide +kernel
theorem d_law_461 : decode code 461 = .ok (.aload_n 0, 1) := by decide +kernel
theorem d_law_462 : decode code 462 = .ok (.iload 4, 2) := by decide +kernel
theorem d_law_464 : decode code 464 = .ok (.iconst 1, 1) := by decide +kernel
theorem d_law_465 : decode code 465 = .ok (.iadd, 1) := by decide +kernel
theorem d_law_466 : decode code 466 = .ok (.iaload, 1) := by decide +kernel
theorem d_law_467 : decode code 467 = .ok (.aload_n 0, 1) := by decide +kernel
theorem d_law_468 : decode code 468 = .ok (.iload 4, 2) := by decide +kernel
theorem d_law_470 : decode code 470 = .ok (.iconst 2, 1) := by decide +kernel
theorem d_law_471 : decode code 471 = .ok (.iadd, 1) := by decide +kernel
theorem d_law_472 : decode code 472 = .ok (.iaload, 1) := by decide +kernel
theorem d_law_473 : decode code 473 = .ok (.aload_n 0, 1) := by decide +kernel
theorem d_law_474 : decode code 474 = .ok (.iload 4, 2) := by decide +kernel
theorem d_law_476 : decode code 476 = .ok (.iconst 3, 1) := by decide +kernel
theorem d_law_477 : decode code 477 = .ok (.iadd, 1) := by decide +kernel
theorem d_law_478 : decode code 478 = .ok (.iaload, 1) := by decide +kernel
theorem d_law_479 : decode code 479 = .ok (.aload_n 3, 1) := by decide +kernel
theorem d_law_480 : decode code 480 = .ok (.invokestatic 88, 3) := by decide +kernel
theorem d_law_483 : decode code 483 = .ok (.istore 5, 2) := by decide +kernel
theorem d_law_485 : decode code 485 = .ok (.aload_n 2, 1) := by decide +kernel
theorem d_law_486 : decode code 486 = .ok (.aload_n 0, 1) := by decide +kernel
theorem d_law_487 : decode code 487 = .ok (.iload 4, 2) := by decide +kernel
theorem d_law_489 : decode code 489 = .ok (.iconst 1, 1) := by decide +kernel
theorem d_law_490 : decode code 490 = .ok (.iadd, 1) := by decide +kernel
theorem d_law_491 : decode code 491 = .ok (.iaload, 1) := by decide +kernel
theorem d_law_492 : decode code 492 = .ok (.aload_n 0, 1) := by decide +kernel
theorem d_law_493 : decode code 493 = .ok (.iload 4, 2) := by decide +kernel
theorem d_law_495 : decode code 495 = .ok (.iconst 2, 1) := by decide +kernel
theorem d_law_496 : decode code 496 = .ok (.iadd, 1) := by decide +kernel
theorem d_law_497 : decode code 497 = .ok (.iaload, 1) := by decide +kernel
theorem d_law_498 : decode code 498 = .ok (.aload_n 0, 1) := by decide +kernel
theorem d_law_499 : decode code 499 = .ok (.iload 4, 2) := by decide +kernel
theorem d_law_501 : decode code 501 = .ok (.iconst 3, 1) := by decide +kernel
theorem d_law_502 : decode code 502 = .ok (.iadd, 1) := by decide +kernel
theorem d_law_503 : decode code 503 = .ok (.iaload, 1) := by decide +kernel
theorem d_law_504 : decode code 504 = .ok (.invokevirtual 91, 3) := by decide +kernel
theorem d_law_507 : decode code 507 = .ok (.istore 6, 2) := by decide +kernel
theorem d_law_509 : decode code 509 = .ok (.aload_n 2, 1) := by decide +kernel
theorem d_law_510 : decode code 510 = .ok (.invokevirtual 58, 3) := by decide +kernel
theorem d_law_513 : decode code 513 = .ok (.iload 5, 2) := by decide +kernel
theorem d_law_515 : decode code 515 = .ok (.if_icmp .eq 5, 3) := by decide +kernel
theorem d_law_518 : decode code 518 = .ok (.iconst 0, 1) := by decide +kernel
theorem d_law_519 : decode code 519 = .ok (.ireturn, 1) := by decide +kernel
theorem d_law_520 : decode code 520 = .ok (.iload 5, 2) := by decide +kernel
theorem d_law_522 : decode code 522 = .ok (.ifCond .ne 15, 3) := by decide +kernel
theorem d_law_525 : decode code 525 = .ok (.aload_n 3, 1) := by decide +kernel
theorem d_law_526 : decode code 526 = .ok (.iconst 0, 1) := by decide +kernel
theorem d_law_527 : decode code 527 = .ok (.laload, 1) := by decide +kernel
theorem d_law_528 : decode code 528 = .ok (.iload 6, 2) := by decide +kernel
theorem d_law_530 : decode code 530 = .ok (.i2l, 1) := by decide +kernel
theorem d_law_531 : decode code 531 = .ok (.lcmp, 1) := by decide +kernel
theorem d_law_532 : decode code 532 = .ok (.ifCond .eq 5, 3) := by decide +kernel
theorem d_law_535 : decode code 535 = .ok (.iconst 0, 1) := by decide +kernel
theorem d_law_536 : decode code 536 = .ok (.ireturn, 1) := by decide +kernel
theorem d_law_537 : decode code 537 = .ok (.goto 346, 3) := by decide +kernel
theorem d_law_540 : decode code 540 = .ok (.aload_n 1, 1) := by decide +kernel
theorem d_law_541 : decode code 541 = .ok (.aload_n 0, 1) := by decide +kernel
theorem d_law_542 : decode code 542 = .ok (.iload 4, 2) := by decide +kernel
theorem d_law_544 : decode code 544 = .ok (.iconst 1, 1) := by decide +kernel
theorem d_law_545 : decode code 545 = .ok (.iadd, 1) := by decide +kernel
theorem d_law_546 : decode code 546 = .ok (.iaload, 1) := by decide +kernel
theorem d_law_547 : decode code 547 = .ok (.aload_n 0, 1) := by decide +kernel
theorem d_law_548 : decode code 548 = .ok (.iload 4, 2) := by decide +kernel
theorem d_law_550 : decode code 550 = .ok (.iconst 2, 1) := by decide +kernel
theorem d_law_551 : decode code 551 = .ok (.iadd, 1) := by decide +kernel
theorem d_law_552 : decode code 552 = .ok (.iaload, 1) := by decide +kernel
theorem d_law_553 : decode code 553 = .ok (.aload_n 3, 1) := by decide +kernel
theorem d_law_554 : decode code 554 = .ok (.invokestatic 92, 3) := by decide +kernel
theorem d_law_557 : decode code 557 = .ok (.istore 5, 2) := by decide +kernel
theorem d_law_559 : decode code 559 = .ok (.aload_n 2, 1) := by decide +kernel
theorem d_law_560 : decode code 560 = .ok (.aload_n 0, 1) := by decide +kernel
theorem d_law_561 : decode code 561 = .ok (.iload 4, 2) := by decide +kernel
theorem d_law_563 : decode code 563 = .ok (.iconst 1, 1) := by decide +kernel
theorem d_law_564 : decode code 564 = .ok (.iadd, 1) := by decide +kernel
theorem d_law_565 : decode code 565 = .ok (.iaload, 1) := by decide +kernel
theorem d_law_566 : decode code 566 = .ok (.aload_n 0, 1) := by decide +kernel
theorem d_law_567 : decode code 567 = .ok (.iload 4, 2) := by decide +kernel
theorem d_law_569 : decode code 569 = .ok (.iconst 2, 1) := by decide +kernel
theorem d_law_570 : decode code 570 = .ok (.iadd, 1) := by decide +kernel
theorem d_law_571 : decode code 571 = .ok (.iaload, 1) := by decide +kernel
theorem d_law_572 : decode code 572 = .ok (.invokevirtual 95, 3) := by decide +kernel
theorem d_law_575 : decode code 575 = .ok (.istore 6, 2) := by decide +kernel
theorem d_law_577 : decode code 577 = .ok (.aload_n 2, 1) := by decide +kernel
theorem d_law_578 : decode code 578 = .ok (.invokevirtual 58, 3) := by decide +kernel
theorem d_law_581 : decode code 581 = .ok (.iload 5, 2) := by decide +kernel
theorem d_law_583 : decode code 583 = .ok (.if_icmp .eq 5, 3) := by decide +kernel
theorem d_law_586 : decode code 586 = .ok (.iconst 0, 1) := by decide +kernel
theorem d_law_587 : decode code 587 = .ok (.ireturn, 1) := by decide +kernel
theorem d_law_588 : decode code 588 = .ok (.iload 5, 2) := by decide +kernel
theorem d_law_590 : decode code 590 = .ok (.ifCond .ne 22, 3) := by decide +kernel
theorem d_law_593 : decode code 593 = .ok (.aload_n 3, 1) := by decide +kernel
theorem d_law_594 : decode code 594 = .ok (.iconst 0, 1) := by decide +kernel
theorem d_law_595 : decode code 595 = .ok (.laload, 1) := by decide +kernel
theorem d_law_596 : decode code 596 = .ok (.iload 6, 2) := by decide +kernel
theorem d_law_598 : decode code 598 = .ok (.ifCond .eq 7, 3) := by decide +kernel
theorem d_law_601 : decode code 601 = .ok (.lconst 1, 1) := by decide +kernel
theorem d_law_602 : decode code 602 = .ok (.goto 4, 3) := by decide +kernel
theorem d_law_605 : decode code 605 = .ok (.lconst 0, 1) := by decide +kernel
theorem d_law_606 : decode code 606 = .ok (.lcmp, 1) := by decide +kernel
theorem d_law_607 : decode code 607 = .ok (.ifCond .eq 5, 3) := by decide +kernel
theorem d_law_610 : decode code 610 = .ok (.iconst 0, 1) := by decide +kernel
theorem d_law_611 : decode code 611 = .ok (.ireturn, 1) := by decide +kernel
theorem d_law_612 : decode code 612 = .ok (.goto 271, 3) := by decide +kernel
theorem d_law_615 : decode code 615 = .ok (.aload_n 1, 1) := by decide +kernel
theorem d_law_616 : decode code 616 = .ok (.aload_n 0, 1) := by decide +kernel
theorem d_law_617 : decode code 617 = .ok (.iload 4, 2) := by decide +kernel
theorem d_law_619 : decode code 619 = .ok (.iconst 1, 1) := by decide +kernel
theorem d_law_620 : decode code 620 = .ok (.iadd, 1) := by decide +kernel
theorem d_law_621 : decode code 621 = .ok (.iaload, 1) := by decide +kernel
theorem d_law_622 : decode code 622 = .ok (.aload_n 0, 1) := by decide +kernel
theorem d_law_623 : decode code 623 = .ok (.iload 4, 2) := by decide +kernel
theorem d_law_625 : decode code 625 = .ok (.iconst 2, 1) := by decide +kernel
theorem d_law_626 : decode code 626 = .ok (.iadd, 1) := by decide +kernel
theorem d_law_627 : decode code 627 = .ok (.iaload, 1) := by decide +kernel
theorem d_law_628 : decode code 628 = .ok (.aload_n 0, 1) := by decide +kernel
theorem d_law_629 : decode code 629 = .ok (.iload 4, 2) := by decide +kernel
theorem d_law_631 : decode code 631 = .ok (.iconst 3, 1) := by decide +kernel
theorem d_law_632 : decode code 632 = .ok (.iadd, 1) := by decide +kernel
theorem d_law_633 : decode code 633 = .ok (.iaload, 1) := by decide +kernel
theorem d_law_634 : decode code 634 = .ok (.aload_n 3, 1) := by decide +kernel
theorem d_law_635 : decode code 635 = .ok (.invokestatic 96, 3) := by decide +kernel
theorem d_law_638 : decode code 638 = .ok (.istore 5, 2) := by decide +kernel
theorem d_law_640 : decode code 640 = .ok (.aload_n 2, 1) := by decide +kernel
theorem d_law_641 : decode code 641 = .ok (.aload_n 0, 1) := by decide +kernel
theorem d_law_642 : decode code 642 = .ok (.iload 4, 2) := by decide +kernel
theorem d_law_644 : decode code 644 = .ok (.iconst 1, 1) := by decide +kernel
theorem d_law_645 : decode code 645 = .ok (.iadd, 1) := by decide +kernel
theorem d_law_646 : decode code 646 = .ok (.iaload, 1) := by decide +kernel
theorem d_law_647 : decode code 647 = .ok (.aload_n 0, 1) := by decide +kernel
theorem d_law_648 : decode code 648 = .ok (.iload 4, 2) := by decide +kernel
theorem d_law_650 : decode code 650 = .ok (.iconst 2, 1) := by decide +kernel
theorem d_law_651 : decode code 651 = .ok (.iadd, 1) := by decide +kernel
theorem d_law_652 : decode code 652 = .ok (.iaload, 1) := by decide +kernel
theorem d_law_653 : decode code 653 = .ok (.aload_n 0, 1) := by decide +kernel
theorem d_law_654 : decode code 654 = .ok (.iload 4, 2) := by decide +kernel
theorem d_law_656 : decode code 656 = .ok (.iconst 3, 1) := by decide +kernel
theorem d_law_657 : decode code 657 = .ok (.iadd, 1) := by decide +kernel
theorem d_law_658 : decode code 658 = .ok (.iaload, 1) := by decide +kernel
theorem d_law_659 : decode code 659 = .ok (.invokevirtual 98, 3) := by decide +kernel
theorem d_law_662 : decode code 662 = .ok (.istore 6, 2) := by decide +kernel
theorem d_law_664 : decode code 664 = .ok (.aload_n 2, 1) := by decide +kernel
theorem d_law_665 : decode code 665 = .ok (.invokevirtual 58, 3) := by decide +kernel
theorem d_law_668 : decode code 668 = .ok (.iload 5, 2) := by decide +kernel
theorem d_law_670 : decode code 670 = .ok (.if_icmp .eq 5, 3) := by decide +kernel
theorem d_law_673 : decode code 673 = .ok (.iconst 0, 1) := by decide +kernel
theorem d_law_674 : decode code 674 = .ok (.ireturn, 1) := by decide +kernel
theorem d_law_675 : decode code 675 = .ok (.iload 5, 2) := by decide +kernel
theorem d_law_677 : decode code 677 = .ok (.ifCond .ne 15, 3) := by decide +kernel
theorem d_law_680 : decode code 680 = .ok (.aload_n 3, 1) := by decide +kernel
theorem d_law_681 : decode code 681 = .ok (.iconst 0, 1) := by decide +kernel
theorem d_law_682 : decode code 682 = .ok (.laload, 1) := by decide +kernel
theorem d_law_683 : decode code 683 = .ok (.iload 6, 2) := by decide +kernel
theorem d_law_685 : decode code 685 = .ok (.i2l, 1) := by decide +kernel
theorem d_law_686 : decode code 686 = .ok (.lcmp, 1) := by decide +kernel
theorem d_law_687 : decode code 687 = .ok (.ifCond .eq 5, 3) := by decide +kernel
theorem d_law_690 : decode code 690 = .ok (.iconst 0, 1) := by decide +kernel
theorem d_law_691 : decode code 691 = .ok (.ireturn, 1) := by decide +kernel
theorem d_law_692 : decode code 692 = .ok (.goto 191, 3) := by decide +kernel
theorem d_law_695 : decode code 695 = .ok (.aload_n 1, 1) := by decide +kernel
theorem d_law_696 : decode code 696 = .ok (.aload_n 0, 1) := by decide +kernel
theorem d_law_697 : decode code 697 = .ok (.iload 4, 2) := by decide +kernel
theorem d_law_699 : decode code 699 = .ok (.iconst 1, 1) := by decide +kernel
theorem d_law_700 : decode code 700 = .ok (.iadd, 1) := by decide +kernel
theorem d_law_701 : decode code 701 = .ok (.iaload, 1) := by decide +kernel
theorem d_law_702 : decode code 702 = .ok (.aload_n 0, 1) := by decide +kernel
theorem d_law_703 : decode code 703 = .ok (.iload 4, 2) := by decide +kernel
theorem d_law_705 : decode code 705 = .ok (.iconst 2, 1) := by decide +kernel
theorem d_law_706 : decode code 706 = .ok (.iadd, 1) := by decide +kernel
theorem d_law_707 : decode code 707 = .ok (.iaload, 1) := by decide +kernel
theorem d_law_708 : decode code 708 = .ok (.aload_n 3, 1) := by decide +kernel
theorem d_law_709 : decode code 709 = .ok (.invokestatic 99, 3) := by decide +kernel
theorem d_law_712 : decode code 712 = .ok (.istore 5, 2) := by decide +kernel
theorem d_law_714 : decode code 714 = .ok (.aload_n 2, 1) := by decide +kernel
theorem d_law_715 : decode code 715 = .ok (.aload_n 0, 1) := by decide +kernel
theorem d_law_716 : decode code 716 = .ok (.iload 4, 2) := by decide +kernel
theorem d_law_718 : decode code 718 = .ok (.iconst 1, 1) := by decide +kernel
theorem d_law_719 : decode code 719 = .ok (.iadd, 1) := by decide +kernel
theorem d_law_720 : decode code 720 = .ok (.iaload, 1) := by decide +kernel
theorem d_law_721 : decode code 721 = .ok (.aload_n 0, 1) := by decide +kernel
theorem d_law_722 : decode code 722 = .ok (.iload 4, 2) := by decide +kernel
theorem d_law_724 : decode code 724 = .ok (.iconst 2, 1) := by decide +kernel
theorem d_law_725 : decode code 725 = .ok (.iadd, 1) := by decide +kernel
theorem d_law_726 : decode code 726 = .ok (.iaload, 1) := by decide +kernel
theorem d_law_727 : decode code 727 = .ok (.invokevirtual 101, 3) := by decide +kernel
theorem d_law_730 : decode code 730 = .ok (.istore 6, 2) := by decide +kernel
theorem d_law_732 : decode code 732 = .ok (.aload_n 2, 1) := by decide +kernel
theorem d_law_733 : decode code 733 = .ok (.invokevirtual 58, 3) := by decide +kernel
theorem d_law_736 : decode code 736 = .ok (.iload 5, 2) := by decide +kernel
theorem d_law_738 : decode code 738 = .ok (.if_icmp .eq 5, 3) := by decide +kernel
theorem d_law_741 : decode code 741 = .ok (.iconst 0, 1) := by decide +kernel
theorem d_law_742 : decode code 742 = .ok (.ireturn, 1) := by decide +kernel
theorem d_law_743 : decode code 743 = .ok (.iload 5, 2) := by decide +kernel
theorem d_law_745 : decode code 745 = .ok (.ifCond .ne 15, 3) := by decide +kernel
theorem d_law_748 : decode code 748 = .ok (.aload_n 3, 1) := by decide +kernel
theorem d_law_749 : decode code 749 = .ok (.iconst 0, 1) := by decide +kernel
theorem d_law_750 : decode code 750 = .ok (.laload, 1) := by decide +kernel
theorem d_law_751 : decode code 751 = .ok (.iload 6, 2) := by decide +kernel
theorem d_law_753 : decode code 753 = .ok (.i2l, 1) := by decide +kernel
theorem d_law_754 : decode code 754 = .ok (.lcmp, 1) := by decide +kernel
theorem d_law_755 : decode code 755 = .ok (.ifCond .eq 5, 3) := by decide +kernel
theorem d_law_758 : decode code 758 = .ok (.iconst 0, 1) := by decide +kernel
theorem d_law_759 : decode code 759 = .ok (.ireturn, 1) := by decide +kernel
theorem d_law_760 : decode code 760 = .ok (.goto 123, 3) := by decide +kernel
theorem d_law_763 : decode code 763 = .ok (.aload_n 1, 1) := by decide +kernel
theorem d_law_764 : decode code 764 = .ok (.aload_n 0, 1) := by decide +kernel
theorem d_law_765 : decode code 765 = .ok (.iload 4, 2) := by decide +kernel
theorem d_law_767 : decode code 767 = .ok (.iconst 1, 1) := by decide +kernel
theorem d_law_768 : decode code 768 = .ok (.iadd, 1) := by decide +kernel
theorem d_law_769 : decode code 769 = .ok (.iaload, 1) := by decide +kernel
theorem d_law_770 : decode code 770 = .ok (.aload_n 0, 1) := by decide +kernel
theorem d_law_771 : decode code 771 = .ok (.iload 4, 2) := by decide +kernel
theorem d_law_773 : decode code 773 = .ok (.iconst 2, 1) := by decide +kernel
theorem d_law_774 : decode code 774 = .ok (.iadd, 1) := by decide +kernel
theorem d_law_775 : decode code 775 = .ok (.iaload, 1) := by decide +kernel
theorem d_law_776 : decode code 776 = .ok (.aload_n 3, 1) := by decide +kernel
theorem d_law_777 : decode code 777 = .ok (.invokestatic 102, 3) := by decide +kernel
theorem d_law_780 : decode code 780 = .ok (.istore 5, 2) := by decide +kernel
theorem d_law_782 : decode code 782 = .ok (.aload_n 2, 1) := by decide +kernel
theorem d_law_783 : decode code 783 = .ok (.aload_n 0, 1) := by decide +kernel
theorem d_law_784 : decode code 784 = .ok (.iload 4, 2) := by decide +kernel
theorem d_law_786 : decode code 786 = .ok (.iconst 1, 1) := by decide +kernel
theorem d_law_787 : decode code 787 = .ok (.iadd, 1) := by decide +kernel
theorem d_law_788 : decode code 788 = .ok (.iaload, 1) := by decide +kernel
theorem d_law_789 : decode code 789 = .ok (.aload_n 0, 1) := by decide +kernel
theorem d_law_790 : decode code 790 = .ok (.iload 4, 2) := by decide +kernel
theorem d_law_792 : decode code 792 = .ok (.iconst 2, 1) := by decide +kernel
theorem d_law_793 : decode code 793 = .ok (.iadd, 1) := by decide +kernel
theorem d_law_794 : decode code 794 = .ok (.iaload, 1) := by decide +kernel
theorem d_law_795 : decode code 795 = .ok (.invokevirtual 104, 3) := by decide +kernel
theorem d_law_798 : decode code 798 = .ok (.istore 6, 2) := by decide +kernel
theorem d_law_800 : decode code 800 = .ok (.aload_n 2, 1) := by decide +kernel
theorem d_law_801 : decode code 801 = .ok (.invokevirtual 58, 3) := by decide +kernel
theorem d_law_804 : decode code 804 = .ok (.iload 5, 2) := by decide +kernel
theorem d_law_806 : decode code 806 = .ok (.if_icmp .eq 5, 3) := by decide +kernel
theorem d_law_809 : decode code 809 = .ok (.iconst 0, 1) := by decide +kernel
theorem d_law_810 : decode code 810 = .ok (.ireturn, 1) := by decide +kernel
theorem d_law_811 : decode code 811 = .ok (.iload 5, 2) := by decide +kernel
theorem d_law_813 : decode code 813 = .ok (.ifCond .ne 15, 3) := by decide +kernel
theorem d_law_816 : decode code 816 = .ok (.aload_n 3, 1) := by decide +kernel
theorem d_law_817 : decode code 817 = .ok (.iconst 0, 1) := by decide +kernel
theorem d_law_818 : decode code 818 = .ok (.laload, 1) := by decide +kernel
theorem d_law_819 : decode code 819 = .ok (.iload 6, 2) := by decide +kernel
theorem d_law_821 : decode code 821 = .ok (.i2l, 1) := by decide +kernel
theorem d_law_822 : decode code 822 = .ok (.lcmp, 1) := by decide +kernel
theorem d_law_823 : decode code 823 = .ok (.ifCond .eq 5, 3) := by decide +kernel
theorem d_law_826 : decode code 826 = .ok (.iconst 0, 1) := by decide +kernel
theorem d_law_827 : decode code 827 = .ok (.ireturn, 1) := by decide +kernel
theorem d_law_828 : decode code 828 = .ok (.goto 55, 3) := by decide +kernel
theorem d_law_831 : decode code 831 = .ok (.aload_n 1, 1) := by decide +kernel
theorem d_law_832 : decode code 832 = .ok (.aload_n 0, 1) := by decide +kernel
theorem d_law_833 : decode code 833 = .ok (.iload 4, 2) := by decide +kernel
theorem d_law_835 : decode code 835 = .ok (.iconst 1, 1) := by decide +kernel
theorem d_law_836 : decode code 836 = .ok (.iadd, 1) := by decide +kernel
theorem d_law_837 : decode code 837 = .ok (.iaload, 1) := by decide +kernel
theorem d_law_838 : decode code 838 = .ok (.ifCond .eq 7, 3) := by decide +kernel
theorem d_law_841 : decode code 841 = .ok (.iconst 1, 1) := by decide +kernel
theorem d_law_842 : decode code 842 = .ok (.goto 4, 3) := by decide +kernel
theorem d_law_845 : decode code 845 = .ok (.iconst 0, 1) := by decide +kernel
theorem d_law_846 : decode code 846 = .ok (.invokevirtual 105, 3) := by decide +kernel
theorem d_law_849 : decode code 849 = .ok (.aload_n 2, 1) := by decide +kernel
theorem d_law_850 : decode code 850 = .ok (.aload_n 0, 1) := by decide +kernel
theorem d_law_851 : decode code 851 = .ok (.iload 4, 2) := by decide +kernel
theorem d_law_853 : decode code 853 = .ok (.iconst 1, 1) := by decide +kernel
theorem d_law_854 : decode code 854 = .ok (.iadd, 1) := by decide +kernel
theorem d_law_855 : decode code 855 = .ok (.iaload, 1) := by decide +kernel
theorem d_law_856 : decode code 856 = .ok (.ifCond .eq 7, 3) := by decide +kernel
theorem d_law_859 : decode code 859 = .ok (.iconst 1, 1) := by decide +kernel
theorem d_law_860 : decode code 860 = .ok (.goto 4, 3) := by decide +kernel
theorem d_law_863 : decode code 863 = .ok (.iconst 0, 1) := by decide +kernel
theorem d_law_864 : decode code 864 = .ok (.invokevirtual 109, 3) := by decide +kernel
theorem d_law_867 : decode code 867 = .ok (.if_icmp .eq 16, 3) := by decide +kernel
theorem d_law_870 : decode code 870 = .ok (.iconst 0, 1) := by decide +kernel
theorem d_law_871 : decode code 871 = .ok (.ireturn, 1) := by decide +kernel
theorem d_law_872 : decode code 872 = .ok (.aload_n 1, 1) := by decide +kernel
theorem d_law_873 : decode code 873 = .ok (.invokevirtual 110, 3) := by decide +kernel
theorem d_law_876 : decode code 876 = .ok (.aload_n 2, 1) := by decide +kernel
theorem d_law_877 : decode code 877 = .ok (.invokevirtual 113, 3) := by decide +kernel
theorem d_law_880 : decode code 880 = .ok (.goto 3, 3) := by decide +kernel
theorem d_law_883 : decode code 883 = .ok (.iinc 4 4, 3) := by decide +kernel
theorem d_law_886 : decode code 886 = .ok (.goto (-863), 3) := by decide +kernel
theorem d_law_889 : decode code 889 = .ok (.iconst 1, 1) := by decide +kernel
theorem d_law_890 : decode code 890 = .ok (.ireturn, 1) := by decide +kernel
end
section
theorem nm_X_init : xNm y_X_init 0 := ⟨⟨by decide +kernel, by decide +kernel⟩, by decide +kernel⟩
theorem nm_L_init : xNm y_L_init 0 := ⟨⟨by decide +kernel, by decide +kernel⟩, by decide +kernel⟩
theorem nm_T_init : xNm y_T_init 1 := ⟨⟨by decide +kernel, by decide +kernel⟩, by decide +kernel⟩
theorem nm_R_init : xNm y_R_init 1 := ⟨⟨by decide +kernel, by decide +kernel⟩, by decide +kernel⟩
theorem nm_W_init : xNm y_W_init 1 := ⟨⟨by decide +kernel, by decide +kernel⟩, by decide +kernel⟩
theorem nm_S_init : xNm y_S_init 0 := ⟨⟨by decide +kernel, by decide +kernel⟩, by decide +kernel⟩
theorem nm_X_receive : xNm y_X_receive 0 := ⟨⟨by decide +kernel, by decide +kernel⟩, by decide +kernel⟩
theorem nm_T_step : xNm y_T_step 0 := ⟨⟨by decide +kernel, by decide +kernel⟩, by decide +kernel⟩
theorem nm_L_left : xNm y_L_left 0 := ⟨⟨by decide +kernel, by decide +kernel⟩, by decide +kernel⟩
theorem nm_T_isAtMark : xNm y_T_isAtMark 0 := ⟨⟨by decide +kernel, by decide +kernel⟩, by decide +kernel⟩
theorem nm_L_ahead : xNm y_L_ahead 1 := ⟨⟨by decide +kernel, by decide +kernel⟩, by decide +kernel⟩
theorem nm_L_at : xNm y_L_at 1 := ⟨⟨by decide +kernel, by decide +kernel⟩, by decide +kernel⟩
theorem nm_L_has : xNm y_L_has 1 := ⟨⟨by decide +kernel, by decide +kernel⟩, by decide +kernel⟩
theorem nm_R_slip : xNm y_R_slip 0 := ⟨⟨by decide +kernel, by decide +kernel⟩, by decide +kernel⟩
theorem nm_L_advance : xNm y_L_advance 1 := ⟨⟨by decide +kernel, by decide +kernel⟩, by decide +kernel⟩
theorem nm_JM_min : xNm y_JM_min 2 := ⟨⟨by decide +kernel, by decide +kernel⟩, by decide +kernel⟩
theorem nm_T_takeTen : xNm y_T_takeTen 0 := ⟨⟨by decide +kernel, by decide +kernel⟩, by decide +kernel⟩
theorem nm_K_decode : xNm y_K_decode 2 := ⟨⟨by decide +kernel, by decide +kernel⟩, by decide +kernel⟩
theorem nm_K_xOf : xNm y_K_xOf 2 := ⟨⟨by decide +kernel, by decide +kernel⟩, by decide +kernel⟩
theorem nm_K_sixOf : xNm y_K_sixOf 2 := ⟨⟨by decide +kernel, by decide +kernel⟩, by decide +kernel⟩
theorem nm_JI_bitCount : xNm y_JI_bitCount 1 := ⟨⟨by decide +kernel, by decide +kernel⟩, by decide +kernel⟩
theorem nm_K_isSymbol : xNm y_K_isSymbol 1 := ⟨⟨by decide +kernel, by decide +kernel⟩, by decide +kernel⟩
theorem nm_K_isAmong : xNm y_K_isAmong 2 := ⟨⟨by decide +kernel, by decide +kernel⟩, by decide +kernel⟩
theorem nm_K_encode : xNm y_K_encode 2 := ⟨⟨by decide +kernel, by decide +kernel⟩, by decide +kernel⟩
theorem nm_K_plusBehindSix : xNm y_K_plusBehindSix 2 := ⟨⟨by decide +kernel, by decide +kernel⟩, by decide +kernel⟩
theorem nm_K_fourOf : xNm y_K_fourOf 2 := ⟨⟨by decide +kernel, by decide +kernel⟩, by decide +kernel⟩
theorem nm_K_plusBehind : xNm y_K_plusBehind 2 := ⟨⟨by decide +kernel, by decide +kernel⟩, by decide +kernel⟩
theorem nm_K_plusBehindFour : xNm y_K_plusBehindFour 2 := ⟨⟨by decide +kernel, by decide +kernel⟩, by decide +kernel⟩
theorem nm_T_judge : xNm y_T_judge 2 := ⟨⟨by decide +kernel, by decide +kernel⟩, by decide +kernel⟩
theorem nm_T_mark : xNm y_T_mark 0 := ⟨⟨by decide +kernel, by decide +kernel⟩, by decide +kernel⟩
theorem nm_T_praise : xNm y_T_praise 0 := ⟨⟨by decide +kernel, by decide +kernel⟩, by decide +kernel⟩
theorem nm_JM_max : xNm y_JM_max 2 := ⟨⟨by decide +kernel, by decide +kernel⟩, by decide +kernel⟩
theorem nm_X_take : xNm y_X_take 0 := ⟨⟨by decide +kernel, by decide +kernel⟩, by decide +kernel⟩
theorem nm_W_step : xNm y_W_step 0 := ⟨⟨by decide +kernel, by decide +kernel⟩, by decide +kernel⟩
theorem nm_W_takeWord : xNm y_W_takeWord 0 := ⟨⟨by decide +kernel, by decide +kernel⟩, by decide +kernel⟩
theorem nm_S_stirBack : xNm y_S_stirBack 1 := ⟨⟨by decide +kernel, by decide +kernel⟩, by decide +kernel⟩
theorem nm_S_turning : xNm y_S_turning 0 := ⟨⟨by decide +kernel, by decide +kernel⟩, by decide +kernel⟩
theorem nm_S_remember : xNm y_S_remember 1 := ⟨⟨by decide +kernel, by decide +kernel⟩, by decide +kernel⟩
theorem nm_W_watch : xNm y_W_watch 1 := ⟨⟨by decide +kernel, by decide +kernel⟩, by decide +kernel⟩
theorem nm_W_gain : xNm y_W_gain 0 := ⟨⟨by decide +kernel, by decide +kernel⟩, by decide +kernel⟩
theorem nm_X_word : xNm y_X_word 0 := ⟨⟨by decide +kernel, by decide +kernel⟩, by decide +kernel⟩
theorem nm_W_lastWord : xNm y_W_lastWord 0 := ⟨⟨by decide +kernel, by decide +kernel⟩, by decide +kernel⟩
theorem nm_X_isPlus : xNm y_X_isPlus 1 := ⟨⟨by decide +kernel, by decide +kernel⟩, by decide +kernel⟩
theorem nm_T_hasPlus : xNm y_T_hasPlus 0 := ⟨⟨by decide +kernel, by decide +kernel⟩, by decide +kernel⟩
theorem nm_X_clear : xNm y_X_clear 0 := ⟨⟨by decide +kernel, by decide +kernel⟩, by decide +kernel⟩
theorem nm_L_empty : xNm y_L_empty 0 := ⟨⟨by decide +kernel, by decide +kernel⟩, by decide +kernel⟩
theorem nm_T_restart : xNm y_T_restart 0 := ⟨⟨by decide +kernel, by decide +kernel⟩, by decide +kernel⟩
theorem nm_R_countAnew : xNm y_R_countAnew 0 := ⟨⟨by decide +kernel, by decide +kernel⟩, by decide +kernel⟩
theorem nm_W_restart : xNm y_W_restart 0 := ⟨⟨by decide +kernel, by decide +kernel⟩, by decide +kernel⟩
theorem nm_S_forget : xNm y_S_forget 0 := ⟨⟨by decide +kernel, by decide +kernel⟩, by decide +kernel⟩
theorem nm_Q_code : xNm y_Q_code 4 := ⟨⟨by decide +kernel, by decide +kernel⟩, by decide +kernel⟩
theorem nm_X_code : xNm y_X_code 2 := ⟨⟨by decide +kernel, by decide +kernel⟩, by decide +kernel⟩
theorem nm_X_refuseNoSymbol : xNm y_X_refuseNoSymbol 1 := ⟨⟨by decide +kernel, by decide +kernel⟩, by decide +kernel⟩
theorem nm_Q_symbol : xNm y_Q_symbol 3 := ⟨⟨by decide +kernel, by decide +kernel⟩, by decide +kernel⟩
theorem nm_X_symbol : xNm y_X_symbol 1 := ⟨⟨by decide +kernel, by decide +kernel⟩, by decide +kernel⟩
theorem nm_Q_send : xNm y_Q_send 3 := ⟨⟨by decide +kernel, by decide +kernel⟩, by decide +kernel⟩
theorem nm_X_send : xNm y_X_send 1 := ⟨⟨by decide +kernel, by decide +kernel⟩, by decide +kernel⟩
theorem nm_X_refuseNoRoom : xNm y_X_refuseNoRoom 2 := ⟨⟨by decide +kernel, by decide +kernel⟩, by decide +kernel⟩
theorem nm_L_hasRoom : xNm y_L_hasRoom 1 := ⟨⟨by decide +kernel, by decide +kernel⟩, by decide +kernel⟩
theorem nm_L_append : xNm y_L_append 2 := ⟨⟨by decide +kernel, by decide +kernel⟩, by decide +kernel⟩
theorem nm_Q_put : xNm y_Q_put 4 := ⟨⟨by decide +kernel, by decide +kernel⟩, by decide +kernel⟩
theorem nm_X_put : xNm y_X_put 2 := ⟨⟨by decide +kernel, by decide +kernel⟩, by decide +kernel⟩
theorem nm_S_stir : xNm y_S_stir 1 := ⟨⟨by decide +kernel, by decide +kernel⟩, by decide +kernel⟩
theorem nm_L_size : xNm y_L_size 0 := ⟨⟨by decide +kernel, by decide +kernel⟩, by decide +kernel⟩
theorem nm_Q_raw : xNm y_Q_raw 5 := ⟨⟨by decide +kernel, by decide +kernel⟩, by decide +kernel⟩
theorem nm_X_raw : xNm y_X_raw 3 := ⟨⟨by decide +kernel, by decide +kernel⟩, by decide +kernel⟩
theorem nm_X_lineOf : xNm y_X_lineOf 1 := ⟨⟨by decide +kernel, by decide +kernel⟩, by decide +kernel⟩
theorem nm_Q_bend : xNm y_Q_bend 4 := ⟨⟨by decide +kernel, by decide +kernel⟩, by decide +kernel⟩
theorem nm_X_bend : xNm y_X_bend 2 := ⟨⟨by decide +kernel, by decide +kernel⟩, by decide +kernel⟩
theorem nm_L_turn : xNm y_L_turn 1 := ⟨⟨by decide +kernel, by decide +kernel⟩, by decide +kernel⟩
theorem nm_Q_lose : xNm y_Q_lose 5 := ⟨⟨by decide +kernel, by decide +kernel⟩, by decide +kernel⟩
theorem nm_X_lose : xNm y_X_lose 3 := ⟨⟨by decide +kernel, by decide +kernel⟩, by decide +kernel⟩
theorem nm_L_place : xNm y_L_place 0 := ⟨⟨by decide +kernel, by decide +kernel⟩, by decide +kernel⟩
theorem nm_L_remove : xNm y_L_remove 2 := ⟨⟨by decide +kernel, by decide +kernel⟩, by decide +kernel⟩
theorem nm_Q_bit : xNm y_Q_bit 4 := ⟨⟨by decide +kernel, by decide +kernel⟩, by decide +kernel⟩
theorem nm_X_bit : xNm y_X_bit 2 := ⟨⟨by decide +kernel, by decide +kernel⟩, by decide +kernel⟩
theorem nm_Q_count : xNm y_Q_count 4 := ⟨⟨by decide +kernel, by decide +kernel⟩, by decide +kernel⟩
theorem nm_X_count : xNm y_X_count 2 := ⟨⟨by decide +kernel, by decide +kernel⟩, by decide +kernel⟩
theorem nm_R_isFollowing : xNm y_R_isFollowing 0 := ⟨⟨by decide +kernel, by decide +kernel⟩, by decide +kernel⟩
theorem nm_T_marks : xNm y_T_marks 0 := ⟨⟨by decide +kernel, by decide +kernel⟩, by decide +kernel⟩
theorem nm_W_marks : xNm y_W_marks 0 := ⟨⟨by decide +kernel, by decide +kernel⟩, by decide +kernel⟩
theorem nm_R_slips : xNm y_R_slips 0 := ⟨⟨by decide +kernel, by decide +kernel⟩, by decide +kernel⟩
theorem nm_R_bads : xNm y_R_bads 0 := ⟨⟨by decide +kernel, by decide +kernel⟩, by decide +kernel⟩
theorem nm_R_wrongs : xNm y_R_wrongs 0 := ⟨⟨by decide +kernel, by decide +kernel⟩, by decide +kernel⟩
theorem nm_L_onesLessZeros : xNm y_L_onesLessZeros 0 := ⟨⟨by decide +kernel, by decide +kernel⟩, by decide +kernel⟩
theorem nm_L_longestRun : xNm y_L_longestRun 0 := ⟨⟨by decide +kernel, by decide +kernel⟩, by decide +kernel⟩
theorem nm_M_init : xNm y_M_init 0 := ⟨⟨by decide +kernel, by decide +kernel⟩, by decide +kernel⟩
theorem nm_M_isSymbol : xNm y_M_isSymbol 1 := ⟨⟨by decide +kernel, by decide +kernel⟩, by decide +kernel⟩
theorem nm_M_make : xNm y_M_make 2 := ⟨⟨by decide +kernel, by decide +kernel⟩, by decide +kernel⟩
theorem nm_M_ones : xNm y_M_ones 1 := ⟨⟨by decide +kernel, by decide +kernel⟩, by decide +kernel⟩
theorem nm_M_behindSix : xNm y_M_behindSix 2 := ⟨⟨by decide +kernel, by decide +kernel⟩, by decide +kernel⟩
theorem nm_M_empty : xNm y_M_empty 0 := ⟨⟨by decide +kernel, by decide +kernel⟩, by decide +kernel⟩
theorem nm_M_thrown : xNm y_M_thrown 0 := ⟨⟨by decide +kernel, by decide +kernel⟩, by decide +kernel⟩
theorem nm_M_clear : xNm y_M_clear 0 := ⟨⟨by decide +kernel, by decide +kernel⟩, by decide +kernel⟩
theorem nm_M_code : xNm y_M_code 2 := ⟨⟨by decide +kernel, by decide +kernel⟩, by decide +kernel⟩
theorem nm_M_refused : xNm y_M_refused 1 := ⟨⟨by decide +kernel, by decide +kernel⟩, by decide +kernel⟩
theorem nm_M_symbol : xNm y_M_symbol 1 := ⟨⟨by decide +kernel, by decide +kernel⟩, by decide +kernel⟩
theorem nm_M_isIn : xNm y_M_isIn 3 := ⟨⟨by decide +kernel, by decide +kernel⟩, by decide +kernel⟩
theorem nm_M_send : xNm y_M_send 1 := ⟨⟨by decide +kernel, by decide +kernel⟩, by decide +kernel⟩
theorem nm_M_append : xNm y_M_append 2 := ⟨⟨by decide +kernel, by decide +kernel⟩, by decide +kernel⟩
theorem nm_M_behind : xNm y_M_behind 2 := ⟨⟨by decide +kernel, by decide +kernel⟩, by decide +kernel⟩
theorem nm_M_behindFour : xNm y_M_behindFour 2 := ⟨⟨by decide +kernel, by decide +kernel⟩, by decide +kernel⟩
theorem nm_M_receive : xNm y_M_receive 0 := ⟨⟨by decide +kernel, by decide +kernel⟩, by decide +kernel⟩
theorem nm_M_bitsAt : xNm y_M_bitsAt 2 := ⟨⟨by decide +kernel, by decide +kernel⟩, by decide +kernel⟩
theorem nm_M_taken : xNm y_M_taken 1 := ⟨⟨by decide +kernel, by decide +kernel⟩, by decide +kernel⟩
theorem nm_M_put : xNm y_M_put 2 := ⟨⟨by decide +kernel, by decide +kernel⟩, by decide +kernel⟩
theorem nm_M_remember : xNm y_M_remember 2 := ⟨⟨by decide +kernel, by decide +kernel⟩, by decide +kernel⟩
theorem nm_M_take : xNm y_M_take 0 := ⟨⟨by decide +kernel, by decide +kernel⟩, by decide +kernel⟩
theorem nm_M_takeWord : xNm y_M_takeWord 1 := ⟨⟨by decide +kernel, by decide +kernel⟩, by decide +kernel⟩
theorem nm_M_onesOf : xNm y_M_onesOf 1 := ⟨⟨by decide +kernel, by decide +kernel⟩, by decide +kernel⟩
theorem nm_M_word : xNm y_M_word 0 := ⟨⟨by decide +kernel, by decide +kernel⟩, by decide +kernel⟩
theorem nm_M_raw : xNm y_M_raw 3 := ⟨⟨by decide +kernel, by decide +kernel⟩, by decide +kernel⟩
theorem nm_M_isStream : xNm y_M_isStream 1 := ⟨⟨by decide +kernel, by decide +kernel⟩, by decide +kernel⟩
theorem nm_M_bend : xNm y_M_bend 2 := ⟨⟨by decide +kernel, by decide +kernel⟩, by decide +kernel⟩
theorem nm_M_lose : xNm y_M_lose 3 := ⟨⟨by decide +kernel, by decide +kernel⟩, by decide +kernel⟩
theorem nm_M_bit : xNm y_M_bit 2 := ⟨⟨by decide +kernel, by decide +kernel⟩, by decide +kernel⟩
theorem nm_M_count : xNm y_M_count 2 := ⟨⟨by decide +kernel, by decide +kernel⟩, by decide +kernel⟩
theorem nm_M_balance : xNm y_M_balance 1 := ⟨⟨by decide +kernel, by decide +kernel⟩, by decide +kernel⟩
theorem nm_M_longest : xNm y_M_longest 1 := ⟨⟨by decide +kernel, by decide +kernel⟩, by decide +kernel⟩
theorem nm_M_isPlus : xNm y_M_isPlus 1 := ⟨⟨by decide +kernel, by decide +kernel⟩, by decide +kernel⟩
theorem fg_L_11_0 : xFg "LineCoder$Line" 11 0 0 := ⟨"LineCoder$Line", T_L, 3, "LineCoder$Line", rfl, uw_L, by decide, w_32, Or.inl rfl⟩
theorem fp_L_11_0 : xFp "LineCoder$Line" 11 0 0 true (.array .byte) := ⟨"LineCoder$Line", T_L, 3, "LineCoder$Line", ty_L, rfl, uw_L, by decide, w_32, Or.inl rfl, ty_L_ok, nm_L, rfl, by decide +kernel, fun _ => rfl⟩
theorem fg_L_15_0 : xFg "LineCoder$Line" 15 0 1 := ⟨"LineCoder$Line", T_L, 3, "LineCoder$Line", rfl, uw_L, by decide, w_33, Or.inl rfl⟩
theorem fp_L_15_0 : xFp "LineCoder$Line" 15 0 1 false .int := ⟨"LineCoder$Line", T_L, 3, "LineCoder$Line", ty_L, rfl, uw_L, by decide, w_33, Or.inl rfl, ty_L_ok, nm_L, rfl, by decide +kernel, fun h => absurd h (by decide)⟩
theorem fg_L_19_0 : xFg "LineCoder$Line" 19 0 2 := ⟨"LineCoder$Line", T_L, 3, "LineCoder$Line", rfl, uw_L, by decide, w_34, Or.inl rfl⟩
theorem fp_L_19_0 : xFp "LineCoder$Line" 19 0 2 false .int := ⟨"LineCoder$Line", T_L, 3, "LineCoder$Line", ty_L, rfl, uw_L, by decide, w_34, Or.inl rfl, ty_L_ok, nm_L, rfl, by decide +kernel, fun h => absurd h (by decide)⟩
theorem fg_T_9_2 : xFg "LineCoder$TenReceiver" 9 2 5 := ⟨"LineCoder$TenReceiver", T_T, 9, "LineCoder$TenReceiver", rfl, uw_T, by decide, w_52, Or.inl rfl⟩
theorem fp_T_9_2 : xFp "LineCoder$TenReceiver" 9 2 5 false .boolean := ⟨"LineCoder$TenReceiver", T_T, 9, "LineCoder$TenReceiver", ty_T, rfl, uw_T, by decide, w_52, Or.inl rfl, ty_T_ok, nm_T, rfl, by decide +kernel, fun h => absurd h (by decide)⟩
theorem fg_T_15_2 : xFg "LineCoder$TenReceiver" 15 2 6 := ⟨"LineCoder$TenReceiver", T_T, 9, "LineCoder$TenReceiver", rfl, uw_T, by decide, w_53, Or.inl rfl⟩
theorem fp_T_15_2 : xFp "LineCoder$TenReceiver" 15 2 6 false .boolean := ⟨"LineCoder$TenReceiver", T_T, 9, "LineCoder$TenReceiver", ty_T, rfl, uw_T, by decide, w_53, Or.inl rfl, ty_T_ok, nm_T, rfl, by decide +kernel, fun h => absurd h (by decide)⟩
theorem fg_T_18_2 : xFg "LineCoder$TenReceiver" 18 2 7 := ⟨"LineCoder$TenReceiver", T_T, 9, "LineCoder$TenReceiver", rfl, uw_T, by decide, w_54, Or.inl rfl⟩
theorem fp_T_18_2 : xFp "LineCoder$TenReceiver" 18 2 7 false .int := ⟨"LineCoder$TenReceiver", T_T, 9, "LineCoder$TenReceiver", ty_T, rfl, uw_T, by decide, w_54, Or.inl rfl, ty_T_ok, nm_T, rfl, by decide +kernel, fun h => absurd h (by decide)⟩
theorem fg_T_22_2 : xFg "LineCoder$TenReceiver" 22 2 8 := ⟨"LineCoder$TenReceiver", T_T, 9, "LineCoder$TenReceiver", rfl, uw_T, by decide, w_55, Or.inl rfl⟩
theorem fp_T_22_2 : xFp "LineCoder$TenReceiver" 22 2 8 false .int := ⟨"LineCoder$TenReceiver", T_T, 9, "LineCoder$TenReceiver", ty_T, rfl, uw_T, by decide, w_55, Or.inl rfl, ty_T_ok, nm_T, rfl, by decide +kernel, fun h => absurd h (by decide)⟩
theorem fg_R_9_2 : xFg "LineCoder$Receiver" 9 2 0 := ⟨"LineCoder$TenReceiver", T_T, 9, "LineCoder$Receiver", rfl, uw_T, by decide, w_56, Or.inl rfl⟩
theorem fp_R_9_2 : xFp "LineCoder$Receiver" 9 2 0 true (.object "LineCoder$Line") := ⟨"LineCoder$TenReceiver", T_T, 9, "LineCoder$Receiver", ty_T, rfl, uw_T, by decide, w_56, Or.inl rfl, ty_T_ok, nm_T, rfl, by decide +kernel, fun _ => rfl⟩
theorem fg_R_9_3 : xFg "LineCoder$Receiver" 9 3 0 := ⟨"LineCoder$WordReceiver", T_W, 9, "LineCoder$Receiver", rfl, uw_W, by decide, w_56, Or.inl rfl⟩
theorem fp_R_9_3 : xFp "LineCoder$Receiver" 9 3 0 true (.object "LineCoder$Line") := ⟨"LineCoder$WordReceiver", T_W, 9, "LineCoder$Receiver", ty_W, rfl, uw_W, by decide, w_56, Or.inl rfl, ty_W_ok, nm_W, rfl, by decide +kernel, fun _ => rfl⟩
theorem fg_W_47_3 : xFg "LineCoder$WordReceiver" 47 3 0 := ⟨"LineCoder$WordReceiver", T_W, 9, "LineCoder$WordReceiver", rfl, uw_W, by decide, w_57, Or.inr w_58⟩
theorem fg_T_32_2 : xFg "LineCoder$TenReceiver" 32 2 0 := ⟨"LineCoder$TenReceiver", T_T, 9, "LineCoder$TenReceiver", rfl, uw_T, by decide, w_59, Or.inr w_60⟩
theorem fg_R_15_2 : xFg "LineCoder$Receiver" 15 2 1 := ⟨"LineCoder$TenReceiver", T_T, 9, "LineCoder$Receiver", rfl, uw_T, by decide, w_61, Or.inl rfl⟩
theorem fp_R_15_2 : xFp "LineCoder$Receiver" 15 2 1 false .boolean := ⟨"LineCoder$TenReceiver", T_T, 9, "LineCoder$Receiver", ty_T, rfl, uw_T, by decide, w_61, Or.inl rfl, ty_T_ok, nm_T, rfl, by decide +kernel, fun h => absurd h (by decide)⟩
theorem fg_R_15_3 : xFg "LineCoder$Receiver" 15 3 1 := ⟨"LineCoder$WordReceiver", T_W, 9, "LineCoder$Receiver", rfl, uw_W, by decide, w_61, Or.inl rfl⟩
theorem fp_R_15_3 : xFp "LineCoder$Receiver" 15 3 1 false .boolean := ⟨"LineCoder$WordReceiver", T_W, 9, "LineCoder$Receiver", ty_W, rfl, uw_W, by decide, w_61, Or.inl rfl, ty_W_ok, nm_W, rfl, by decide +kernel, fun h => absurd h (by decide)⟩
theorem fg_W_37_3 : xFg "LineCoder$WordReceiver" 37 3 1 := ⟨"LineCoder$WordReceiver", T_W, 9, "LineCoder$WordReceiver", rfl, uw_W, by decide, w_62, Or.inr w_63⟩
theorem fp_W_37_3 : xFp "LineCoder$WordReceiver" 37 3 1 false .boolean := ⟨"LineCoder$WordReceiver", T_W, 9, "LineCoder$WordReceiver", ty_W, rfl, uw_W, by decide, w_62, Or.inr w_63, ty_W_ok, nm_W, rfl, by decide +kernel, fun h => absurd h (by decide)⟩
theorem fg_T_29_2 : xFg "LineCoder$TenReceiver" 29 2 1 := ⟨"LineCoder$TenReceiver", T_T, 9, "LineCoder$TenReceiver", rfl, uw_T, by decide, w_64, Or.inr w_65⟩
theorem fp_T_29_2 : xFp "LineCoder$TenReceiver" 29 2 1 false .boolean := ⟨"LineCoder$TenReceiver", T_T, 9, "LineCoder$TenReceiver", ty_T, rfl, uw_T, by decide, w_64, Or.inr w_65, ty_T_ok, nm_T, rfl, by decide +kernel, fun h => absurd h (by decide)⟩
theorem fg_R_19_2 : xFg "LineCoder$Receiver" 19 2 2 := ⟨"LineCoder$TenReceiver", T_T, 9, "LineCoder$Receiver", rfl, uw_T, by decide, w_66, Or.inl rfl⟩
theorem fp_R_19_2 : xFp "LineCoder$Receiver" 19 2 2 false .int := ⟨"LineCoder$TenReceiver", T_T, 9, "LineCoder$Receiver", ty_T, rfl, uw_T, by decide, w_66, Or.inl rfl, ty_T_ok, nm_T, rfl, by decide +kernel, fun h => absurd h (by decide)⟩
theorem fg_R_19_3 : xFg "LineCoder$Receiver" 19 3 2 := ⟨"LineCoder$WordReceiver", T_W, 9, "LineCoder$Receiver", rfl, uw_W, by decide, w_66, Or.inl rfl⟩
theorem fp_R_19_3 : xFp "LineCoder$Receiver" 19 3 2 false .int := ⟨"LineCoder$WordReceiver", T_W, 9, "LineCoder$Receiver", ty_W, rfl, uw_W, by decide, w_66, Or.inl rfl, ty_W_ok, nm_W, rfl, by decide +kernel, fun h => absurd h (by decide)⟩
theorem fg_R_23_2 : xFg "LineCoder$Receiver" 23 2 3 := ⟨"LineCoder$TenReceiver", T_T, 9, "LineCoder$Receiver", rfl, uw_T, by decide, w_67, Or.inl rfl⟩
theorem fp_R_23_2 : xFp "LineCoder$Receiver" 23 2 3 false .int := ⟨"LineCoder$TenReceiver", T_T, 9, "LineCoder$Receiver", ty_T, rfl, uw_T, by decide, w_67, Or.inl rfl, ty_T_ok, nm_T, rfl, by decide +kernel, fun h => absurd h (by decide)⟩
theorem fg_R_23_3 : xFg "LineCoder$Receiver" 23 3 3 := ⟨"LineCoder$WordReceiver", T_W, 9, "LineCoder$Receiver", rfl, uw_W, by decide, w_67, Or.inl rfl⟩
theorem fp_R_23_3 : xFp "LineCoder$Receiver" 23 3 3 false .int := ⟨"LineCoder$WordReceiver", T_W, 9, "LineCoder$Receiver", ty_W, rfl, uw_W, by decide, w_67, Or.inl rfl, ty_W_ok, nm_W, rfl, by decide +kernel, fun h => absurd h (by decide)⟩
theorem fg_W_75_3 : xFg "LineCoder$WordReceiver" 75 3 3 := ⟨"LineCoder$WordReceiver", T_W, 9, "LineCoder$WordReceiver", rfl, uw_W, by decide, w_68, Or.inr w_69⟩
theorem fp_W_75_3 : xFp "LineCoder$WordReceiver" 75 3 3 false .int := ⟨"LineCoder$WordReceiver", T_W, 9, "LineCoder$WordReceiver", ty_W, rfl, uw_W, by decide, w_68, Or.inr w_69, ty_W_ok, nm_W, rfl, by decide +kernel, fun h => absurd h (by decide)⟩
theorem fg_T_73_2 : xFg "LineCoder$TenReceiver" 73 2 3 := ⟨"LineCoder$TenReceiver", T_T, 9, "LineCoder$TenReceiver", rfl, uw_T, by decide, w_70, Or.inr w_71⟩
theorem fp_T_73_2 : xFp "LineCoder$TenReceiver" 73 2 3 false .int := ⟨"LineCoder$TenReceiver", T_T, 9, "LineCoder$TenReceiver", ty_T, rfl, uw_T, by decide, w_70, Or.inr w_71, ty_T_ok, nm_T, rfl, by decide +kernel, fun h => absurd h (by decide)⟩
theorem fg_R_26_2 : xFg "LineCoder$Receiver" 26 2 4 := ⟨"LineCoder$TenReceiver", T_T, 9, "LineCoder$Receiver", rfl, uw_T, by decide, w_72, Or.inl rfl⟩
theorem fp_R_26_2 : xFp "LineCoder$Receiver" 26 2 4 false .int := ⟨"LineCoder$TenReceiver", T_T, 9, "LineCoder$Receiver", ty_T, rfl, uw_T, by decide, w_72, Or.inl rfl, ty_T_ok, nm_T, rfl, by decide +kernel, fun h => absurd h (by decide)⟩
theorem fg_R_26_3 : xFg "LineCoder$Receiver" 26 3 4 := ⟨"LineCoder$WordReceiver", T_W, 9, "LineCoder$Receiver", rfl, uw_W, by decide, w_72, Or.inl rfl⟩
theorem fp_R_26_3 : xFp "LineCoder$Receiver" 26 3 4 false .int := ⟨"LineCoder$WordReceiver", T_W, 9, "LineCoder$Receiver", ty_W, rfl, uw_W, by decide, w_72, Or.inl rfl, ty_W_ok, nm_W, rfl, by decide +kernel, fun h => absurd h (by decide)⟩
theorem fg_T_79_2 : xFg "LineCoder$TenReceiver" 79 2 4 := ⟨"LineCoder$TenReceiver", T_T, 9, "LineCoder$TenReceiver", rfl, uw_T, by decide, w_73, Or.inr w_74⟩
theorem fp_T_79_2 : xFp "LineCoder$TenReceiver" 79 2 4 false .int := ⟨"LineCoder$TenReceiver", T_T, 9, "LineCoder$TenReceiver", ty_T, rfl, uw_T, by decide, w_73, Or.inr w_74, ty_T_ok, nm_T, rfl, by decide +kernel, fun h => absurd h (by decide)⟩
theorem fg_S_11_1 : xFg "LineCoder$Stirrer" 11 1 0 := ⟨"LineCoder$Stirrer", T_S, 1, "LineCoder$Stirrer", rfl, uw_S, by decide, w_107, Or.inl rfl⟩
theorem fp_S_11_1 : xFp "LineCoder$Stirrer" 11 1 0 false .long := ⟨"LineCoder$Stirrer", T_S, 1, "LineCoder$Stirrer", ty_S, rfl, uw_S, by decide, w_107, Or.inl rfl, ty_S_ok, nm_S, rfl, by decide +kernel, fun h => absurd h (by decide)⟩
theorem fg_W_14_3 : xFg "LineCoder$WordReceiver" 14 3 5 := ⟨"LineCoder$WordReceiver", T_W, 9, "LineCoder$WordReceiver", rfl, uw_W, by decide, w_111, Or.inl rfl⟩
theorem fp_W_14_3 : xFp "LineCoder$WordReceiver" 14 3 5 true (.object "LineCoder$Stirrer") := ⟨"LineCoder$WordReceiver", T_W, 9, "LineCoder$WordReceiver", ty_W, rfl, uw_W, by decide, w_111, Or.inl rfl, ty_W_ok, nm_W, rfl, by decide +kernel, fun _ => rfl⟩
theorem fg_W_20_3 : xFg "LineCoder$WordReceiver" 20 3 6 := ⟨"LineCoder$WordReceiver", T_W, 9, "LineCoder$WordReceiver", rfl, uw_W, by decide, w_112, Or.inl rfl⟩
theorem fp_W_20_3 : xFp "LineCoder$WordReceiver" 20 3 6 false .int := ⟨"LineCoder$WordReceiver", T_W, 9, "LineCoder$WordReceiver", ty_W, rfl, uw_W, by decide, w_112, Or.inl rfl, ty_W_ok, nm_W, rfl, by decide +kernel, fun h => absurd h (by decide)⟩
theorem fg_W_24_3 : xFg "LineCoder$WordReceiver" 24 3 7 := ⟨"LineCoder$WordReceiver", T_W, 9, "LineCoder$WordReceiver", rfl, uw_W, by decide, w_113, Or.inl rfl⟩
theorem fp_W_24_3 : xFp "LineCoder$WordReceiver" 24 3 7 false .int := ⟨"LineCoder$WordReceiver", T_W, 9, "LineCoder$WordReceiver", ty_W, rfl, uw_W, by decide, w_113, Or.inl rfl, ty_W_ok, nm_W, rfl, by decide +kernel, fun h => absurd h (by decide)⟩
theorem fg_W_27_3 : xFg "LineCoder$WordReceiver" 27 3 8 := ⟨"LineCoder$WordReceiver", T_W, 9, "LineCoder$WordReceiver", rfl, uw_W, by decide, w_114, Or.inl rfl⟩
theorem fp_W_27_3 : xFp "LineCoder$WordReceiver" 27 3 8 false .long := ⟨"LineCoder$WordReceiver", T_W, 9, "LineCoder$WordReceiver", ty_W, rfl, uw_W, by decide, w_114, Or.inl rfl, ty_W_ok, nm_W, rfl, by decide +kernel, fun h => absurd h (by decide)⟩
theorem fg_X_10_4 : xFg "LineCoder" 10 4 0 := ⟨"LineCoder", T_X, 6, "LineCoder", rfl, uw_X, by decide, w_131, Or.inl rfl⟩
theorem fp_X_10_4 : xFp "LineCoder" 10 4 0 true (.object "LineCoder$Line") := ⟨"LineCoder", T_X, 6, "LineCoder", ty_X, rfl, uw_X, by decide, w_131, Or.inl rfl, ty_X_ok, nm_X, rfl, by decide +kernel, fun _ => rfl⟩
theorem fg_X_16_4 : xFg "LineCoder" 16 4 1 := ⟨"LineCoder", T_X, 6, "LineCoder", rfl, uw_X, by decide, w_132, Or.inl rfl⟩
theorem fp_X_16_4 : xFp "LineCoder" 16 4 1 true (.object "LineCoder$Line") := ⟨"LineCoder", T_X, 6, "LineCoder", ty_X, rfl, uw_X, by decide, w_132, Or.inl rfl, ty_X_ok, nm_X, rfl, by decide +kernel, fun _ => rfl⟩
theorem fg_X_24_4 : xFg "LineCoder" 24 4 2 := ⟨"LineCoder", T_X, 6, "LineCoder", rfl, uw_X, by decide, w_133, Or.inl rfl⟩
theorem fp_X_24_4 : xFp "LineCoder" 24 4 2 true (.object "LineCoder$TenReceiver") := ⟨"LineCoder", T_X, 6, "LineCoder", ty_X, rfl, uw_X, by decide, w_133, Or.inl rfl, ty_X_ok, nm_X, rfl, by decide +kernel, fun _ => rfl⟩
theorem fg_X_31_4 : xFg "LineCoder" 31 4 3 := ⟨"LineCoder", T_X, 6, "LineCoder", rfl, uw_X, by decide, w_134, Or.inl rfl⟩
theorem fp_X_31_4 : xFp "LineCoder" 31 4 3 true (.object "LineCoder$WordReceiver") := ⟨"LineCoder", T_X, 6, "LineCoder", ty_X, rfl, uw_X, by decide, w_134, Or.inl rfl, ty_X_ok, nm_X, rfl, by decide +kernel, fun _ => rfl⟩
theorem fg_X_38_4 : xFg "LineCoder" 38 4 4 := ⟨"LineCoder", T_X, 6, "LineCoder", rfl, uw_X, by decide, w_135, Or.inl rfl⟩
theorem fp_X_38_4 : xFp "LineCoder" 38 4 4 true (.object "LineCoder$Stirrer") := ⟨"LineCoder", T_X, 6, "LineCoder", ty_X, rfl, uw_X, by decide, w_135, Or.inl rfl, ty_X_ok, nm_X, rfl, by decide +kernel, fun _ => rfl⟩
theorem fg_X_42_4 : xFg "LineCoder" 42 4 5 := ⟨"LineCoder", T_X, 6, "LineCoder", rfl, uw_X, by decide, w_136, Or.inl rfl⟩
theorem fp_X_42_4 : xFp "LineCoder" 42 4 5 false .boolean := ⟨"LineCoder", T_X, 6, "LineCoder", ty_X, rfl, uw_X, by decide, w_136, Or.inl rfl, ty_X_ok, nm_X, rfl, by decide +kernel, fun h => absurd h (by decide)⟩
theorem fg_M_61_5 : xFg "LineCoderModel" 61 5 0 := ⟨"LineCoderModel", T_M, 23, "LineCoderModel", rfl, uw_M, by decide, w_623, Or.inl rfl⟩
theorem fp_M_61_5 : xFp "LineCoderModel" 61 5 0 false .int := ⟨"LineCoderModel", T_M, 23, "LineCoderModel", ty_M, rfl, uw_M, by decide, w_623, Or.inl rfl, ty_M_ok, nm_M, rfl, by decide +kernel, fun h => absurd h (by decide)⟩
theorem fg_M_7_5 : xFg "LineCoderModel" 7 5 1 := ⟨"LineCoderModel", T_M, 23, "LineCoderModel", rfl, uw_M, by decide, w_624, Or.inl rfl⟩
theorem fp_M_7_5 : xFp "LineCoderModel" 7 5 1 true (.array .int) := ⟨"LineCoderModel", T_M, 23, "LineCoderModel", ty_M, rfl, uw_M, by decide, w_624, Or.inl rfl, ty_M_ok, nm_M, rfl, by decide +kernel, fun _ => rfl⟩
theorem fg_M_13_5 : xFg "LineCoderModel" 13 5 2 := ⟨"LineCoderModel", T_M, 23, "LineCoderModel", rfl, uw_M, by decide, w_625, Or.inl rfl⟩
theorem fp_M_13_5 : xFp "LineCoderModel" 13 5 2 true (.array .int) := ⟨"LineCoderModel", T_M, 23, "LineCoderModel", ty_M, rfl, uw_M, by decide, w_625, Or.inl rfl, ty_M_ok, nm_M, rfl, by decide +kernel, fun _ => rfl⟩
theorem fg_M_16_5 : xFg "LineCoderModel" 16 5 3 := ⟨"LineCoderModel", T_M, 23, "LineCoderModel", rfl, uw_M, by decide, w_626, Or.inl rfl⟩
theorem fp_M_16_5 : xFp "LineCoderModel" 16 5 3 true (.array .int) := ⟨"LineCoderModel", T_M, 23, "LineCoderModel", ty_M, rfl, uw_M, by decide, w_626, Or.inl rfl, ty_M_ok, nm_M, rfl, by decide +kernel, fun _ => rfl⟩
theorem fg_M_19_5 : xFg "LineCoderModel" 19 5 4 := ⟨"LineCoderModel", T_M, 23, "LineCoderModel", rfl, uw_M, by decide, w_627, Or.inl rfl⟩
theorem fp_M_19_5 : xFp "LineCoderModel" 19 5 4 true (.array .int) := ⟨"LineCoderModel", T_M, 23, "LineCoderModel", ty_M, rfl, uw_M, by decide, w_627, Or.inl rfl, ty_M_ok, nm_M, rfl, by decide +kernel, fun _ => rfl⟩
theorem fg_M_22_5 : xFg "LineCoderModel" 22 5 5 := ⟨"LineCoderModel", T_M, 23, "LineCoderModel", rfl, uw_M, by decide, w_628, Or.inl rfl⟩
theorem fp_M_22_5 : xFp "LineCoderModel" 22 5 5 true (.array .int) := ⟨"LineCoderModel", T_M, 23, "LineCoderModel", ty_M, rfl, uw_M, by decide, w_628, Or.inl rfl, ty_M_ok, nm_M, rfl, by decide +kernel, fun _ => rfl⟩
theorem fg_M_25_5 : xFg "LineCoderModel" 25 5 6 := ⟨"LineCoderModel", T_M, 23, "LineCoderModel", rfl, uw_M, by decide, w_629, Or.inl rfl⟩
theorem fp_M_25_5 : xFp "LineCoderModel" 25 5 6 true (.array .int) := ⟨"LineCoderModel", T_M, 23, "LineCoderModel", ty_M, rfl, uw_M, by decide, w_629, Or.inl rfl, ty_M_ok, nm_M, rfl, by decide +kernel, fun _ => rfl⟩
theorem fg_M_28_5 : xFg "LineCoderModel" 28 5 7 := ⟨"LineCoderModel", T_M, 23, "LineCoderModel", rfl, uw_M, by decide, w_630, Or.inl rfl⟩
theorem fp_M_28_5 : xFp "LineCoderModel" 28 5 7 true (.array .int) := ⟨"LineCoderModel", T_M, 23, "LineCoderModel", ty_M, rfl, uw_M, by decide, w_630, Or.inl rfl, ty_M_ok, nm_M, rfl, by decide +kernel, fun _ => rfl⟩
theorem fg_M_31_5 : xFg "LineCoderModel" 31 5 8 := ⟨"LineCoderModel", T_M, 23, "LineCoderModel", rfl, uw_M, by decide, w_631, Or.inl rfl⟩
theorem fp_M_31_5 : xFp "LineCoderModel" 31 5 8 true (.array .boolean) := ⟨"LineCoderModel", T_M, 23, "LineCoderModel", ty_M, rfl, uw_M, by decide, w_631, Or.inl rfl, ty_M_ok, nm_M, rfl, by decide +kernel, fun _ => rfl⟩
theorem fg_M_35_5 : xFg "LineCoderModel" 35 5 9 := ⟨"LineCoderModel", T_M, 23, "LineCoderModel", rfl, uw_M, by decide, w_632, Or.inl rfl⟩
theorem fp_M_35_5 : xFp "LineCoderModel" 35 5 9 true (.array .int) := ⟨"LineCoderModel", T_M, 23, "LineCoderModel", ty_M, rfl, uw_M, by decide, w_632, Or.inl rfl, ty_M_ok, nm_M, rfl, by decide +kernel, fun _ => rfl⟩
theorem fg_M_38_5 : xFg "LineCoderModel" 38 5 10 := ⟨"LineCoderModel", T_M, 23, "LineCoderModel", rfl, uw_M, by decide, w_633, Or.inl rfl⟩
theorem fp_M_38_5 : xFp "LineCoderModel" 38 5 10 true (.array .int) := ⟨"LineCoderModel", T_M, 23, "LineCoderModel", ty_M, rfl, uw_M, by decide, w_633, Or.inl rfl, ty_M_ok, nm_M, rfl, by decide +kernel, fun _ => rfl⟩
theorem fg_M_41_5 : xFg "LineCoderModel" 41 5 11 := ⟨"LineCoderModel", T_M, 23, "LineCoderModel", rfl, uw_M, by decide, w_634, Or.inl rfl⟩
theorem fp_M_41_5 : xFp "LineCoderModel" 41 5 11 true (.array .int) := ⟨"LineCoderModel", T_M, 23, "LineCoderModel", ty_M, rfl, uw_M, by decide, w_634, Or.inl rfl, ty_M_ok, nm_M, rfl, by decide +kernel, fun _ => rfl⟩
theorem fg_M_65_5 : xFg "LineCoderModel" 65 5 12 := ⟨"LineCoderModel", T_M, 23, "LineCoderModel", rfl, uw_M, by decide, w_635, Or.inl rfl⟩
theorem fp_M_65_5 : xFp "LineCoderModel" 65 5 12 false .int := ⟨"LineCoderModel", T_M, 23, "LineCoderModel", ty_M, rfl, uw_M, by decide, w_635, Or.inl rfl, ty_M_ok, nm_M, rfl, by decide +kernel, fun h => absurd h (by decide)⟩
theorem fg_M_68_5 : xFg "LineCoderModel" 68 5 13 := ⟨"LineCoderModel", T_M, 23, "LineCoderModel", rfl, uw_M, by decide, w_636, Or.inl rfl⟩
theorem fp_M_68_5 : xFp "LineCoderModel" 68 5 13 false .boolean := ⟨"LineCoderModel", T_M, 23, "LineCoderModel", ty_M, rfl, uw_M, by decide, w_636, Or.inl rfl, ty_M_ok, nm_M, rfl, by decide +kernel, fun h => absurd h (by decide)⟩
theorem fg_M_72_5 : xFg "LineCoderModel" 72 5 14 := ⟨"LineCoderModel", T_M, 23, "LineCoderModel", rfl, uw_M, by decide, w_637, Or.inl rfl⟩
theorem fp_M_72_5 : xFp "LineCoderModel" 72 5 14 false .boolean := ⟨"LineCoderModel", T_M, 23, "LineCoderModel", ty_M, rfl, uw_M, by decide, w_637, Or.inl rfl, ty_M_ok, nm_M, rfl, by decide +kernel, fun h => absurd h (by decide)⟩
theorem fg_M_75_5 : xFg "LineCoderModel" 75 5 15 := ⟨"LineCoderModel", T_M, 23, "LineCoderModel", rfl, uw_M, by decide, w_638, Or.inl rfl⟩
theorem fp_M_75_5 : xFp "LineCoderModel" 75 5 15 false .boolean := ⟨"LineCoderModel", T_M, 23, "LineCoderModel", ty_M, rfl, uw_M, by decide, w_638, Or.inl rfl, ty_M_ok, nm_M, rfl, by decide +kernel, fun h => absurd h (by decide)⟩
theorem fg_M_78_5 : xFg "LineCoderModel" 78 5 16 := ⟨"LineCoderModel", T_M, 23, "LineCoderModel", rfl, uw_M, by decide, w_639, Or.inl rfl⟩
theorem fp_M_78_5 : xFp "LineCoderModel" 78 5 16 false .int := ⟨"LineCoderModel", T_M, 23, "LineCoderModel", ty_M, rfl, uw_M, by decide, w_639, Or.inl rfl, ty_M_ok, nm_M, rfl, by decide +kernel, fun h => absurd h (by decide)⟩
theorem fg_M_44_5 : xFg "LineCoderModel" 44 5 17 := ⟨"LineCoderModel", T_M, 23, "LineCoderModel", rfl, uw_M, by decide, w_640, Or.inl rfl⟩
theorem fp_M_44_5 : xFp "LineCoderModel" 44 5 17 true (.array .int) := ⟨"LineCoderModel", T_M, 23, "LineCoderModel", ty_M, rfl, uw_M, by decide, w_640, Or.inl rfl, ty_M_ok, nm_M, rfl, by decide +kernel, fun _ => rfl⟩
theorem fg_M_47_5 : xFg "LineCoderModel" 47 5 18 := ⟨"LineCoderModel", T_M, 23, "LineCoderModel", rfl, uw_M, by decide, w_641, Or.inl rfl⟩
theorem fp_M_47_5 : xFp "LineCoderModel" 47 5 18 true (.array .int) := ⟨"LineCoderModel", T_M, 23, "LineCoderModel", ty_M, rfl, uw_M, by decide, w_641, Or.inl rfl, ty_M_ok, nm_M, rfl, by decide +kernel, fun _ => rfl⟩
theorem fg_M_81_5 : xFg "LineCoderModel" 81 5 19 := ⟨"LineCoderModel", T_M, 23, "LineCoderModel", rfl, uw_M, by decide, w_642, Or.inl rfl⟩
theorem fp_M_81_5 : xFp "LineCoderModel" 81 5 19 false .int := ⟨"LineCoderModel", T_M, 23, "LineCoderModel", ty_M, rfl, uw_M, by decide, w_642, Or.inl rfl, ty_M_ok, nm_M, rfl, by decide +kernel, fun h => absurd h (by decide)⟩
theorem fg_M_84_5 : xFg "LineCoderModel" 84 5 20 := ⟨"LineCoderModel", T_M, 23, "LineCoderModel", rfl, uw_M, by decide, w_643, Or.inl rfl⟩
theorem fp_M_84_5 : xFp "LineCoderModel" 84 5 20 false .int := ⟨"LineCoderModel", T_M, 23, "LineCoderModel", ty_M, rfl, uw_M, by decide, w_643, Or.inl rfl, ty_M_ok, nm_M, rfl, by decide +kernel, fun h => absurd h (by decide)⟩
theorem fg_M_87_5 : xFg "LineCoderModel" 87 5 21 := ⟨"LineCoderModel", T_M, 23, "LineCoderModel", rfl, uw_M, by decide, w_644, Or.inl rfl⟩
theorem fp_M_87_5 : xFp "LineCoderModel" 87 5 21 false .long := ⟨"LineCoderModel", T_M, 23, "LineCoderModel", ty_M, rfl, uw_M, by decide, w_644, Or.inl rfl, ty_M_ok, nm_M, rfl, by decide +kernel, fun h => absurd h (by decide)⟩
theorem cn_Q_8 : xCn "LineCoderLaw" 8 4 6 [.null, .null, .null, .null, .null, .int 0] := ⟨"LineCoder", T_X, ty_X, rfl, uw_X, ty_X_ok, w_18, w_19, w_1, fun j hj => match j, hj with
  | 0, _ => rfl
  | 1, _ => rfl
  | 2, _ => rfl
  | 3, _ => rfl
  | 4, _ => rfl
  | 5, _ => rfl
  | k + 6, h => absurd h (by omega)⟩
theorem cn_X_7 : xCn "LineCoder" 7 0 3 [.null, .int 0, .int 0] := ⟨"LineCoder$Line", T_L, ty_L, rfl, uw_L, ty_L_ok, w_26, w_27, w_2, fun j hj => match j, hj with
  | 0, _ => rfl
  | 1, _ => rfl
  | 2, _ => rfl
  | k + 3, h => absurd h (by omega)⟩
theorem cn_X_19 : xCn "LineCoder" 19 2 9 [.null, .int 0, .int 0, .int 0, .int 0, .int 0, .int 0, .int 0, .int 0] := ⟨"LineCoder$TenReceiver", T_T, ty_T, rfl, uw_T, ty_T_ok, w_43, w_44, w_4, fun j hj => match j, hj with
  | 0, _ => rfl
  | 1, _ => rfl
  | 2, _ => rfl
  | 3, _ => rfl
  | 4, _ => rfl
  | 5, _ => rfl
  | 6, _ => rfl
  | 7, _ => rfl
  | 8, _ => rfl
  | k + 9, h => absurd h (by omega)⟩
theorem cn_X_28 : xCn "LineCoder" 28 3 9 [.null, .int 0, .int 0, .int 0, .int 0, .null, .int 0, .int 0, .long 0] := ⟨"LineCoder$WordReceiver", T_W, ty_W, rfl, uw_W, ty_W_ok, w_94, w_95, w_5, fun j hj => match j, hj with
  | 0, _ => rfl
  | 1, _ => rfl
  | 2, _ => rfl
  | 3, _ => rfl
  | 4, _ => rfl
  | 5, _ => rfl
  | 6, _ => rfl
  | 7, _ => rfl
  | 8, _ => rfl
  | k + 9, h => absurd h (by omega)⟩
theorem cn_W_9 : xCn "LineCoder$WordReceiver" 9 1 1 [.long 0] := ⟨"LineCoder$Stirrer", T_S, ty_S, rfl, uw_S, ty_S_ok, w_100, w_101, w_6, fun j hj => match j, hj with
  | 0, _ => rfl
  | k + 1, h => absurd h (by omega)⟩
theorem cn_X_35 : xCn "LineCoder" 35 1 1 [.long 0] := ⟨"LineCoder$Stirrer", T_S, ty_S, rfl, uw_S, ty_S_ok, w_129, w_101, w_6, fun j hj => match j, hj with
  | 0, _ => rfl
  | k + 1, h => absurd h (by omega)⟩
theorem cn_Q_49 : xCn "LineCoderLaw" 49 5 23 [.int 0, .null, .null, .null, .null, .null, .null, .null, .null, .null, .null, .null, .int 0, .int 0, .int 0, .int 0, .int 0, .null, .null, .int 0, .int 0, .long 0, .int 0] := ⟨"LineCoderModel", T_M, ty_M, rfl, uw_M, ty_M_ok, w_600, w_601, w_7, fun j hj => match j, hj with
  | 0, _ => rfl
  | 1, _ => rfl
  | 2, _ => rfl
  | 3, _ => rfl
  | 4, _ => rfl
  | 5, _ => rfl
  | 6, _ => rfl
  | 7, _ => rfl
  | 8, _ => rfl
  | 9, _ => rfl
  | 10, _ => rfl
  | 11, _ => rfl
  | 12, _ => rfl
  | 13, _ => rfl
  | 14, _ => rfl
  | 15, _ => rfl
  | 16, _ => rfl
  | 17, _ => rfl
  | 18, _ => rfl
  | 19, _ => rfl
  | 20, _ => rfl
  | 21, _ => rfl
  | 22, _ => rfl
  | k + 23, h => absurd h (by omega)⟩
end
section
/-! the pure side: bits, the stirrer, rows of a line -/
def bI (b : Bool) : Int32 := if b then nI 1 else nI 0
/-- bit i of x -/
def xbit (x : Int32) (i : Nat) : Int32 := (x.toUInt32 >>> ((nI i).toUInt32 &&& Int32.toUInt32 31)).toInt32 &&& nI 1
theorem and1 (x : Int32) : x &&& nI 1 = 0 ∨ x &&& nI 1 = 1 := by
  have h := pk_and x (m := nI 1) 1 (by decide)
  rw [h]
  have : x.toBitVec.toNat % 2 ^ 1 = 0 ∨ x.toBitVec.toNat % 2 ^ 1 = 1 := by omega
  rcases this with h | h <;> rw [h]
  · exact Or.inl (by decide)
  · exact Or.inr (by decide)
theorem xbit01 (x : Int32) (i : Nat) : xbit x i = 0 ∨ xbit x i = 1 := and1 _
theorem byt01 {x : Int32} (h : x = 0 ∨ x = 1) : x.toInt8.toInt32 = x := by rcases h with h | h <;> rw [h] <;> decide
theorem nar01 {x : Int32} (h : x = 0 ∨ x = 1) : vp_nar .byte x = x := (vp_nar_byte x).trans (byt01 h)
theorem xdec {a : Nat} (h : 0 < a) : nI a - nI 1 + Int32.ofInt (-1) = nI (a - 1) - nI 1 := by
  obtain ⟨b, rfl⟩ : ∃ b, a = b + 1 := ⟨a - 1, by omega⟩
  rw [pk_sub (by omega), show b + 1 - 1 = b by omega, Int32.sub_eq_add_neg]
  rfl
theorem xneg {a : Nat} (h : nI a - nI 1 < 0) (ha : a < 2 ^ 30) : a = 0 := by
  rcases Nat.eq_zero_or_pos a with h0 | h0
  · exact h0
  · rw [pk_sub h0] at h
    exact absurd h (nI_pos (by omega))
/-- q bits of x behind the place n, the highest first: t of them -/
def apF (f : Nat → Int32) (n : Nat) (x : Int32) (q : Nat) : Nat → Nat → Int32
  | 0 => f
  | t + 1 => upd (apF f n x q t) (n + t) (xbit x (q - t - 1))
/-- the number of i bits from p on, the first the highest -/
def ahF (f : Nat → Int32) (p : Nat) : Nat → Int32
  | 0 => nI 0
  | i + 1 => (ahF f p i <<< (nI 1 &&& 31)) ||| f (p + i)
/-- ones less zeros among the first i -/
def olF (f : Nat → Int32) : Nat → Int32
  | 0 => nI 0
  | i + 1 => olF f i + (if f i = nI 1 then nI 1 else (-1 : Int32))
/-- the run that ends at i - 1, and the longest so far -/
def lrF (f : Nat → Int32) : Nat → Nat × Nat
  | 0 => (0, 0)
  | i + 1 => let r := if 0 < i ∧ f i = f (i - 1) then (lrF f i).1 + 1 else 1
    (r, if (lrF f i).2 < r then r else (lrF f i).2)
theorem lrF_le (f : Nat → Int32) : ∀ i, (lrF f i).1 ≤ i ∧ (lrF f i).2 ≤ i
  | 0 => ⟨Nat.le_refl _, Nat.le_refl _⟩
  | i + 1 => by
    have h := lrF_le f i
    simp only [lrF]
    refine ⟨?_, ?_⟩ <;> split <;> (try split) <;> omega
def turF (w : Int64) : Int32 := ((((w.toUInt64 >>> ((nI 38).toInt64.toUInt64 &&& Int64.toUInt64 63)).toInt64) ^^^ ((w.toUInt64 >>> ((nI 57).toInt64.toUInt64 &&& Int64.toUInt64 63)).toInt64)).toInt32) &&& nI 1
def remF (w : Int64) (b : Int32) : Int64 := (w <<< ((nI 1).toInt64 &&& 63)) ||| b.toInt64
end
section
theorem w_nat : Cond.native arraycopyName ∈ xG := xG_at 542 (by decide +kernel) (by decide +kernel)
section XK5
variable {p : Program} {l : Launch} {e : Env} {R : Room} {s : State} {m : MethodId} {args : Array Value} {below : List Frame} {meth : Method} {c : Code} {nL : Nat} {E : xE} {B A : Nat → Prop} {k n : Nat} {Q : State → Prop} {ws : va_W} {pc : Nat} {lv : List (Nat × Value)} {st rest : List Value} {own mn : String} {cc : ByteArray} {ret : Option FieldType} {hs : List (Nat × Nat × Nat × Nat)}
theorem x_objInit (npc : Nat) (hB : xB p s m args meth c E A own cc nL ret mn hs) {idx a : Nat} (hl0 : Cond.methodLink own idx Lib.objectInit ∈ xG) (hi0 : Cond.instanceMethod Lib.objectInit ∈ xG) (hc0 : Cond.code Lib.objectInit ⟨#[0xb1]⟩ 1 none ∈ xG) (hd : decode cc pc = .ok (.invokespecial idx, 3)) (hn : pc + 3 = npc) (hf : 1 ≤ R.frames) (hlo : (rest.map fun v => v.category).sum + 12 ≤ R.locals) (kk : xW p l e R s m args below meth c nL E B A k n Q ws npc lv rest) : xW p l e R s m args below meth c nL E B A k n Q ws pc lv (.ref a :: rest) := fun H locs ls hl hP hD hS => by
  subst hn
  exact W.objInit hB.qx hB.qb hB.qo (hB.qt _ hl0) (hB.qt _ hi0) (hB.qt _ hc0) rfl (hl.1.trans hB.ql.symm) rfl hd hf (by show 2 * 0 + _ + 12 ≤ _; omega) (kk H locs ls hl hP hD hS)
theorem x_copyB (npc : Nat) (hB : xB p s m args meth c E A own cc nL ret mn hs) (q0 : Nat) {idx a N sp dp len : Nat} {f : Nat → Int32} {ws' : va_W} (hl0 : Cond.methodLink own idx arraycopyName ∈ xG) (hs0 : Cond.static arraycopyName ∈ xG) (hi0 : Cond.initialized "java/lang/System" ∈ xG) (he : ws[q0]? = some (a, .inl (E.2 0, N, .inl f))) (hN : N < 65536) (h4 : sp + len ≤ N) (h5 : dp + len ≤ N) (hfit : ∀ i, i < len → f (sp + i) = 0 ∨ f (sp + i) = 1) (hw : ws.set q0 (a, .inl (E.2 0, N, .inl (va_cpy f f sp dp len))) = ws') (hd : decode cc pc = .ok (.invokestatic idx, 3)) (hn : pc + 3 = npc) (hf : 1 ≤ R.frames) (hlo : (rest.map fun v => v.category).sum + (nativeFrameWords "java/lang/System" "arraycopy" 5 + 11) ≤ R.locals)
    (kk : xW p l e R s m args below meth c nL E A A k n Q ws' npc lv rest) : xW p l e R s m args below meth c nL E A A k n Q ws pc lv (.int (nI len) :: .int (nI dp) :: .ref a :: .int (nI sp) :: .ref a :: rest) := fun H locs ls hl hP hD hS => by
  subst hn
  subst hw
  have c1 : (nI sp).toNatClampNeg = sp := nI_clamp (by omega)
  have c2 : (nI dp).toNatClampNeg = dp := nI_clamp (by omega)
  have c3 : (nI len).toNatClampNeg = len := nI_clamp (by omega)
  refine va_copyi (ty := .byte) hB.qx hB.qb (hB.ql.trans hl.1.symm) hB.qo (hB.qt _ hl0) (hB.qt _ w_nat) (hB.qt _ hs0) (hB.qt _ hi0) hB.qk hP hD hS q0 q0 0 0 he he rfl rfl (by decide) (nI_pos (by omega)) (nI_pos (by omega)) (nI_pos (by omega)) (by rw [c1, c3]; exact h4) (by rw [c2, c3]; exact h5) (fun i hi => ?_) hf hlo hd (fun H1 locs1 hP1 hD1 hS1 => ?_)
  · rw [c3] at hi
    rw [c1]
    rcases hfit i hi with h | h <;> rw [h] <;> decide
  · rw [c1, c2, c3] at hP1 hD1
    exact kk H1 locs1 ls hl hP1 hD1 hS1
theorem x_ldcw (npc : Nat) (hB : xB p s m args meth c E A own cc nL ret mn hs) {z : Nat} {v : Int32} (hd : decode cc pc = .ok (.ldc_w z, 3)) (hn : pc + 3 = npc) (hw : Cond.constant own z v ∈ xG) (kk : xW p l e R s m args below meth c nL E B A k n Q ws npc lv (.int v :: rest)) : xW p l e R s m args below meth c nL E B A k n Q ws pc lv rest := fun H locs ls hl hP hD hS => by
  subst hn
  exact lv_ldcw hB.qx hB.qb hB.qo (hB.qt _ hw) hd (kk H locs ls hl hP hD hS)
def xEx {α : Type} (wF : α → va_W) : xO → va_W → Prop := fun o w' => o = .inl none ∧ ∃ a, w' = wF a
theorem x_callE {α : Type} {wF : α → va_W} (npc : Nat) (hB : xB p s m args meth c E A own cc nL ret mn hs) {y : MethodName} {hd : Cond} {rm : Room} {av : List Value} {w wr : va_W} {maxL k' n' : Nat} {ig : Instr}
    (pf : xPf p l e R s m args below meth c nL E k n ws pc y av st rest) (hC : xC l E y hd rm av w (xEx wF)) (hhd : hd ∈ xG) (hh : xHd hd y maxL) (hini : Cond.initialized y.cls ∈ xG)
    (isC isR : List Nat) (hw : isC.map (fun i => ws[i]?) = w.map some) (hndC : va_nd isC = true) (hr : isR.map (fun i => ws[i]?) = wr.map some) (hnd : va_nd isR = true) (hdis : ∀ i ∈ isR, i ∉ isC)
    (hR : rm.frames + 1 ≤ R.frames ∧ 8 + (maxL + 11) + rm.locals ≤ R.locals) (hkR : k + rm.cells ≤ R.cells ∧ n + rm.slots ≤ R.slots) (hk : k + rm.cells = k') (hn' : n + rm.slots = n')
    (hst : (rest.map fun v => v.category).sum ≤ 8) (hd0 : decode cc pc = .ok (ig, 3)) (hn : pc + 3 = npc)
    (kk : ∀ a : α, xW p l e R s m args below meth c nL E A A k' n' Q (wr ++ wF a) npc lv rest) : xW p l e R s m args below meth c nL E A A k n Q ws pc lv st := by
  refine x_call0 npc hB pf hC hhd hh hini isC isR hw hndC hr hnd hdis hR hkR (Nat.le_of_eq hk) (Nat.le_of_eq hn') hst hd0 hn (fun C w' h => ?_) (fun v' w' h => ?_)
  · exact absurd h.1 (by simp)
  · obtain ⟨h1, a, h2⟩ := h
    cases h1
    cases h2
    exact kk a
end XK5
end
section
/-! pure contracts: nothing that was there is written; and throws -/
def xNew (sz : Nat) : Nat → Prop := fun q => sz ≤ q
def xPreP (E : xE) (av : List Value) (w : va_W) (sz : Nat) : Array Value → State → Prop := fun v U => v = av.toArray ∧ U.heap.size = sz ∧ va_P E.1 vwCl w U.heap ∧ va_K E.1 vwCl (xtys E) U ∧ va_D (fun _ => True) w ∧ xZ E (xNew sz) U U.heap
def xPostP (sz : Nat) (o : xO) : Array Value → State → Outcome → State → Prop := fun _ st oc t => xIs sz o oc t ∧ va_F (xNew sz) st t
def xCp (l : Launch) (E : xE) (y : MethodName) (hd : Cond) (rm : Room) (av : List Value) (w : va_W) (o : xO) : Prop :=
  ∀ sz : Nat, xMet l y (hd :: xG) rm (xPreP E av w sz) (xPostP sz o) (xNew sz)
theorem x_blindP {E : xE} {av : List Value} {w : va_W} {sz : Nat} : FrameBlind (xPreP E av w sz) := by
  intro a U g mk h
  obtain ⟨h1, h2, h3, h4, h5, h6⟩ := h
  exact ⟨h1, h2, h3, va_K.moved (u := U) (U := U.calling g mk a) (Vm.Alike.refl U.vm) h4, h5, xZ.moved (u := U) (U := U.calling g mk a) (State.WarmedH.refl U) h6⟩
def xPQ (below : List Frame) (a : Array Value) (s : State) (mc ms : Nat) (o : xO) : State → Prop := fun t =>
  ∃ oc, t.status = .running ∧ Ended t below oc ∧ xPostP s.heap.size o a s oc t ∧ ∃ L, xEnd s t L mc ms ∧ ∀ q ∈ L, xNew s.heap.size q.base
section XP
variable {p : Program} {l : Launch} {e : Env} {R : Room} {s : State} {m : MethodId} {args : Array Value} {below : List Frame} {meth : Method} {c : Code} {nL : Nat} {E : xE} {B A : Nat → Prop} {k n : Nat} {Q : State → Prop} {ws : va_W} {pc : Nat} {lv : List (Nat × Value)} {st rest : List Value} {own mn : String} {cc : ByteArray} {ret : Option FieldType} {hs : List (Nat × Nat × Nat × Nat)}
theorem x_ofP {y : MethodName} {rm : Room} {av : List Value} {w : va_W} {o : xO} (hy : plainFor y = true) (ho : y.cls = own) (hm : y.name = mn) (hsl : (lg_sl av).length ≤ nL) (hlv : lv_args 0 av = lv)
    (body : ∀ p e s m args below meth c, xB p s m args meth c E (xNew s.heap.size) own cc nL ret mn [] → xW p l e rm s m args below meth c nL E (fun _ => True) (xNew s.heap.size) 0 0 (xPQ below args s rm.cells rm.slots o) w 0 lv []) : xCp l E y (.code y cc nL ret) rm av w o := by
  subst ho
  subst hm
  intro sz
  refine MetFree.of_bodySF (code := cc) (maxLocals := nL) (ret := ret) hy ?_ ?_
  · intro args s m h hn
    obtain ⟨meth, c, h1, h2, h3, h4, h5, h6, -, -⟩ := Cond.code_spec hn (atoms_spec (ws := Cond.code y cc nL ret :: xG) h _ List.mem_cons_self)
    exact ⟨meth, c, h1, h2, h3, h4, h5, h6⟩
  · intro p e s m args below meth c s₁ B hml hP _
    obtain ⟨rfl, rfl, hP, hK, hD, hZ⟩ := hP
    have hts := atoms_spec (ws := Cond.code y cc nL ret :: xG) B.pre
    have hh0 : s₁.heap = s.heap := by rw [B.state]; rfl
    have hne : c.exceptionTable.isEmpty = true := B.noHandlers (hts _ List.mem_cons_self)
    have hl := lv_entry av (n := nL) hsl
    have K : W p l e rm s m av.toArray below meth c s.heap [] 0 0 (xPQ below av.toArray s rm.cells rm.slots o) (entryFrame m av.toArray nL) := by
      rw [lg_entry_eq]
      refine body p e s m av.toArray below meth c ⟨B.exec, B.bytes, hml, findClass_of_methodNamed B.named, fun w hw => hts w (List.mem_cons_of_mem _ hw), hK, hZ, B.returns, B.notSynchronized, fun q h => h, (name_of_methodNamed B.named B.method).1, fun q hq cell hc => absurd (Array.getElem?_eq_some_iff.mp hc).1 (by have : s.heap.size ≤ q := hq; omega), ?_⟩ s.heap [] _ ?_ hP hD va_S.rf
      · rw [show c.exceptionTable = #[] from Array.isEmpty_iff.mp hne]; rfl
      · rw [← hlv]; exact hl
    obtain ⟨t, a1, oc, b1, b2, b3, b4⟩ := K s₁ hh0 (Stand.of_body B)
    exact ⟨t, oc, a1, b1, b2, b3, b4⟩
/-- the call of a pure method, from any walk: the world stays as it is -/
theorem x_callP0 (npc : Nat) (hB : xB p s m args meth c E A own cc nL ret mn hs) {y : MethodName} {hd : Cond} {rm : Room} {av : List Value} {w : va_W} {o : xO} {maxL k' n' : Nat} {ig : Instr}
    (pf : xPf p l e R s m args below meth c nL E k n ws pc y av st rest) (hC : xCp l E y hd rm av w o) (hhd : hd ∈ xG) (hh : xHd hd y maxL) (hini : Cond.initialized y.cls ∈ xG)
    (isC : List Nat) (hw : isC.map (fun i => ws[i]?) = w.map some) (hndC : va_nd isC = true)
    (hR : rm.frames + 1 ≤ R.frames ∧ 8 + (maxL + 11) + rm.locals ≤ R.locals) (hkR : k + rm.cells ≤ R.cells ∧ n + rm.slots ≤ R.slots) (hk : k + rm.cells = k') (hn' : n + rm.slots = n')
    (hst : (rest.map fun v => v.category).sum ≤ 8) (hd0 : decode cc pc = .ok (ig, 3)) (hn : pc + 3 = npc)
    (kt : ∀ C : String, o = .inr C → xT p l e R s m args below meth c nL E B A k' n' Q ws pc lv C)
    (kk : ∀ v : Option Value, o = .inl v → xW p l e R s m args below meth c nL E B A k' n' Q ws npc lv (v.toList ++ rest)) : xW p l e R s m args below meth c nL E B A k n Q ws pc lv st := by
  intro H locs ls hl hP hD hS T hT X
  obtain ⟨vm₁, mk, hW₁, hnm0, hstep⟩ := pf H locs ls T hl.1 hP hT X
  have X₁ := X.noted hW₁
  have hnm : (T.setVm vm₁).methodNamed? y = some mk := X₁.named hnm0
  have hall : ∀ w ∈ hd :: xG, w.before av.toArray (T.setVm vm₁) = true := by
    intro w hw
    rcases List.mem_cons.mp hw with rfl | hw
    · exact xG_warm hhd X₁.warmed (hB.qt _ hhd)
    · exact xG_warm hw X₁.warmed (hB.qt _ hw)
  obtain ⟨mk', methY, cY, h1, h2, h3, h4, -⟩ := hh _ _ (hall hd List.mem_cons_self)
  cases hnm.symm.trans h1
  have hF : ∀ q, xNew H.size q → A q := fun q h => hB.qa q (Nat.le_trans hS.1 h)
  have hzz : xZ E (xNew H.size) (T.setVm vm₁) H := ((hB.qz.kept (fun a h1 h2 => hS.2.1 a h1 h2)).narrow hF).moved X₁.warmed
  have hpre : xPreP E av w H.size av.toArray (T.setVm vm₁) := by
    have hTe : (T.setVm vm₁).heap = H := hT
    refine ⟨rfl, by rw [hTe], by rw [hTe]; exact hP.sub isC (x_fm hw), va_K.moved X₁.warmed.alike hB.qk, (hD.sub isC hndC hw).weaken (fun _ _ _ _ => trivial), by rw [hTe]; exact hzz⟩
  obtain ⟨oc, t, L, U', X', hL, e1, e2, hq, hsteps⟩ := x_back (hC H.size) x_blindP X₁ (g := F0 m pc ls rest) rfl (hl.1.trans hB.ql.symm) (by rw [hB.qb]; exact hd0) (lv_room hst) hnm h2 h3 h4 hR.1 hR.2 hall (hall _ (List.mem_cons_of_mem _ hini)) hkR.1 hkR.2 hpre
  obtain ⟨hox, hz1, hk1⟩ := hq
  have hTe : ((T.setVm vm₁).calling (F0 m pc ls rest) mk av.toArray).heap = H := hT
  rw [hTe] at hz1 hk1
  have hP2 : va_P E.1 vwCl ws t.heap := hP.kept (fun k q hk => hk1 q.1 (hP k q hk).lt (fun z => absurd (hP k q hk).lt (by have : H.size ≤ q.1 := z; omega)))
  have hS2 : va_S A s.heap t.heap (locs ++ L) := ⟨Nat.le_trans hS.1 hz1, fun q h1 h2 => by rw [hk1 q (Nat.lt_of_lt_of_le h1 hS.1) (fun z => h2 (hF q z))]; exact hS.2.1 q h1 h2, fun q hq => by
    rcases List.mem_append.mp hq with h | h
    · exact hS.2.2 q h
    · exact hF _ (hL q h)⟩
  have X'' := stand_widen X' (Nat.le_of_eq hk) (Nat.le_of_eq hn')
  subst hn
  cases o with
  | inl v =>
    have hox : oc = .returned v := hox
    subst hox
    obtain ⟨t2, a1, b1⟩ := kk v rfl t.heap (locs ++ L) ls hl hP2 hD hS2 U' e1 X''
    exact ⟨t2, hstep _ (fun acts => by rw [doInvoke_state]; exact hsteps.trans a1), b1⟩
  | inr C =>
    obtain ⟨a, cell, hox, ha, hc, hcs, hcl⟩ := hox
    subst hox
    obtain ⟨t2, a1, b1⟩ := kt C rfl t.heap (locs ++ L) ls rest a cell hl hP2 hD hS2 (Nat.le_trans hS.1 ha) hc hcs (by rw [← X'.warmed.alike.findClass, e2]; exact hcl) U' e1 X''
    exact ⟨t2, hstep _ (fun acts => by rw [doInvoke_state]; exact hsteps.trans a1), b1⟩
theorem x_callP (npc : Nat) (hB : xB p s m args meth c E A own cc nL ret mn hs) {y : MethodName} {hd : Cond} {rm : Room} {av st' : List Value} {w : va_W} {v : Option Value} {maxL k' n' : Nat} {ig : Instr}
    (pf : xPf p l e R s m args below meth c nL E k n ws pc y av st rest) (hC : xCp l E y hd rm av w (.inl v)) (hhd : hd ∈ xG) (hh : xHd hd y maxL) (hini : Cond.initialized y.cls ∈ xG)
    (isC : List Nat) (hw : isC.map (fun i => ws[i]?) = w.map some) (hndC : va_nd isC = true)
    (hR : rm.frames + 1 ≤ R.frames ∧ 8 + (maxL + 11) + rm.locals ≤ R.locals) (hkR : k + rm.cells ≤ R.cells ∧ n + rm.slots ≤ R.slots) (hk : k + rm.cells = k') (hn' : n + rm.slots = n')
    (hst : (rest.map fun v => v.category).sum ≤ 8) (hd0 : decode cc pc = .ok (ig, 3)) (hn : pc + 3 = npc) (hst' : v.toList ++ rest = st')
    (kk : xW p l e R s m args below meth c nL E B A k' n' Q ws npc lv st') : xW p l e R s m args below meth c nL E B A k n Q ws pc lv st := by
  subst hst'
  exact x_callP0 npc hB pf hC hhd hh hini isC hw hndC hR hkR hk hn' hst hd0 hn (fun C h => by cases h) (fun v h => by cases h; exact kk)
theorem x_callPT (hB : xB p s m args meth c E A own cc nL ret mn hs) {y : MethodName} {hd : Cond} {rm : Room} {av : List Value} {w : va_W} {C : String} {maxL k' n' : Nat} {ig : Instr}
    (pf : xPf p l e R s m args below meth c nL E k n ws pc y av st rest) (hC : xCp l E y hd rm av w (.inr C)) (hhd : hd ∈ xG) (hh : xHd hd y maxL) (hini : Cond.initialized y.cls ∈ xG)
    (isC : List Nat) (hw : isC.map (fun i => ws[i]?) = w.map some) (hndC : va_nd isC = true)
    (hR : rm.frames + 1 ≤ R.frames ∧ 8 + (maxL + 11) + rm.locals ≤ R.locals) (hkR : k + rm.cells ≤ R.cells ∧ n + rm.slots ≤ R.slots) (hk : k + rm.cells = k') (hn' : n + rm.slots = n')
    (hst : (rest.map fun v => v.category).sum ≤ 8) (hd0 : decode cc pc = .ok (ig, 3))
    (kt : xT p l e R s m args below meth c nL E B A k' n' Q ws pc lv C) : xW p l e R s m args below meth c nL E B A k n Q ws pc lv st :=
  x_callP0 _ hB pf hC hhd hh hini isC hw hndC hR hkR hk hn' hst hd0 rfl (fun C h => by cases h; exact kt) (fun v h => by cases h)
theorem x_mqP {o : xO} {t : State} (h : MQ below (xPostP s.heap.size o) args s k n (xNew s.heap.size) t) : xPQ below args s k n o t := by
  obtain ⟨oc, h1, h2, h3, L, ⟨-, hW, hS⟩, h5⟩ := h
  exact ⟨oc, h1, h2, h3, L, ⟨hW, hS⟩, h5⟩
theorem x_endsP {v v' : Option Value} {H : Heap} {locs : List Loc} (hv : v' = v) (hS : va_S (xNew s.heap.size) s.heap H locs) :
    (∀ t : State, t.heap = H → s.WarmedH t.vm → xPostP s.heap.size (.inl v) args s (.returned v') t) ∧ ∀ q ∈ locs, xNew s.heap.size q.base := by
  subst hv
  exact ⟨fun t ht hW => ⟨rfl, hS.F ht⟩, hS.2.2⟩
theorem x_leaveP (hB : xB p s m args meth c E (xNew s.heap.size) own cc nL ret mn hs) {mc ms : Nat} {C : String} (hk : k ≤ mc) (hn : n ≤ ms) (hout : ∀ h ∈ hs, ¬ (h.1 ≤ pc ∧ pc < h.2.1)) :
    xT p l e R s m args below meth c nL E B (xNew s.heap.size) k n (xPQ below args s mc ms (.inr C)) ws pc lv C := by
  intro H locs ls st a cell hl hP hD hS ha hc hcs hcl T hT X
  have X' := stand_widen X hk hn
  have hout' : ∀ x ∈ c.exceptionTable.toList, covers x pc = false := by
    intro x hx
    have h1 : (x.startPc, x.endPc, x.handlerPc, x.catchType) ∈ hs := by rw [← hB.qe]; exact List.mem_map.mpr ⟨x, hx, rfl⟩
    have h2 := hout _ h1
    simp only [covers, Bool.and_eq_false_iff, decide_eq_false_iff_not]
    by_cases h3 : x.startPc ≤ pc
    · exact Or.inr (fun h4 => h2 ⟨h3, h4⟩)
    · exact Or.inl h3
  obtain ⟨hwalk, hrun, hended, hWm, hsame⟩ := X'.leaveThrown a (g := F0 m pc ls st) rfl rfl rfl hout' (hlocks := hB.qn)
  exact ⟨T.setFrames (.throwing a :: below), hwalk, .threw a, hrun, hended, ⟨⟨a, cell, rfl, ha, by show T.heap[a]? = _; rw [hT]; exact hc, hcs, by rw [hWm.alike.findClass]; exact hcl⟩, hS.F (show T.heap = H from hT)⟩, locs, ⟨hWm, hsame⟩, hS.2.2⟩
theorem x_iretP {v : Int32} (hB : xB p s m args meth c E (xNew s.heap.size) own cc nL (some .int) mn hs) {mc ms : Nat} {r : Option Value}  (hv : (some (.int v)) = r) (hk : k ≤ mc) (hn : n ≤ ms) (hd : decode cc pc = .ok (.ireturn, 1)) : xW p l e R s m args below meth c nL E B (xNew s.heap.size) k n (xPQ below args s mc ms (.inl r)) ws pc lv [.int v] := fun H locs ls hl hP hD hS => by
  have he := x_endsP (args := args) hv hS
  exact W.widen hk hn (x_mono (fun t h => x_mqP h) (W.iret hB.qx hB.qb hB.qr he.1 he.2 hd hB.qn))
theorem x_zretP {v : Int32} (hB : xB p s m args meth c E (xNew s.heap.size) own cc nL (some .boolean) mn hs) {mc ms : Nat} {r : Option Value} (hz : narrow .boolean (.int v) = .int v) (hv : (some (.int v)) = r) (hk : k ≤ mc) (hn : n ≤ ms) (hd : decode cc pc = .ok (.ireturn, 1)) : xW p l e R s m args below meth c nL E B (xNew s.heap.size) k n (xPQ below args s mc ms (.inl r)) ws pc lv [.int v] := fun H locs ls hl hP hD hS => by
  have he := x_endsP (args := args) hv hS
  exact W.widen hk hn (x_mono (fun t h => x_mqP h) (W.zret hB.qx hB.qb hB.qr hz he.1 he.2 hd hB.qn))
theorem x_lretP {v : Int64} (hB : xB p s m args meth c E (xNew s.heap.size) own cc nL (some .long) mn hs) {mc ms : Nat} {r : Option Value}  (hv : (some (.long v)) = r) (hk : k ≤ mc) (hn : n ≤ ms) (hd : decode cc pc = .ok (.lreturn, 1)) : xW p l e R s m args below meth c nL E B (xNew s.heap.size) k n (xPQ below args s mc ms (.inl r)) ws pc lv [.long v] := fun H locs ls hl hP hD hS => by
  have he := x_endsP (args := args) hv hS
  exact W.widen hk hn (x_mono (fun t h => x_mqP h) (W.lret hB.qx hB.qb hB.qr he.1 he.2 hd hB.qn))
theorem x_vretP  (hB : xB p s m args meth c E (xNew s.heap.size) own cc nL none mn hs) {mc ms : Nat} {r : Option Value}  (hv : none = r) (hk : k ≤ mc) (hn : n ≤ ms) (hd : decode cc pc = .ok (.return_, 1)) : xW p l e R s m args below meth c nL E B (xNew s.heap.size) k n (xPQ below args s mc ms (.inl r)) ws pc lv [] := fun H locs ls hl hP hD hS => by
  have he := x_endsP (args := args) hv hS
  exact W.widen hk hn (x_mono (fun t h => x_mqP h) (W.vret hB.qx hB.qb hB.qr he.1 he.2 hd hB.qn))
theorem x_aretP {C : String} {v : Nat} (hB : xB p s m args meth c E (xNew s.heap.size) own cc nL (some (.object C)) mn hs) {mc ms : Nat} {r : Option Value}  (hv : (some (.ref v)) = r) (hk : k ≤ mc) (hn : n ≤ ms) (hd : decode cc pc = .ok (.areturn, 1)) : xW p l e R s m args below meth c nL E B (xNew s.heap.size) k n (xPQ below args s mc ms (.inl r)) ws pc lv [.ref v] := fun H locs ls hl hP hD hS => by
  have he := x_endsP (args := args) hv hS
  exact W.widen hk hn (x_mono (fun t h => x_mqP h) (W.aret hB.qx hB.qb hB.qr (Or.inl ⟨_, rfl⟩) (Or.inr ⟨_, rfl⟩) he.1 he.2 hd hB.qn))
end XP
end
section
/-! throw new X("..") in a pure walk; the catch of an exception -/
def xNoTr (l : Launch) : Prop := ∀ e, l.admits e → e.platform.stackTraces = false
/-- the words of a throw: in the lists, or on Throwable's statics -/
def xTw (a : Cond) : Prop := a ∈ xG ∨ a = .laysStatic Bundle.tN "UNASSIGNED_STACK" Bundle.steD ∨ a = .laysStatic Bundle.tN "SUPPRESSED_SENTINEL" Bundle.listD ∨ a = .isRef (.static Bundle.tN "UNASSIGNED_STACK" Bundle.steD) ∨ a = .isRef (.static Bundle.tN "SUPPRESSED_SENTINEL" Bundle.listD)
theorem xTw.ok {a : Cond} {args : Array Value} {s : State} {E : xE} {A : Nat → Prop} (h : xTw a) (ht : ∀ w ∈ xG, w.before args s = true) (hz : xZ E A s s.heap) : a.before args s = true := by
  rcases h with h | rfl | rfl | rfl | rfl
  · exact ht _ h
  · exact hz.1.lays
  · exact hz.2.1.lays
  · exact hz.1.ref
  · exact hz.2.1.ref
theorem x_same {s U : State} {k n : Nat} (h : s.sameButNew U [] k n) : va_F (xNew s.heap.size) s U := by
  obtain ⟨h1, h2, h3, h4, h5, h6⟩ := h
  refine ⟨by first | exact h2 | exact h3 | omega, fun q hq _ => ?_⟩
  obtain ⟨cell, hc⟩ : ∃ cell, s.heap[q]? = some cell := ⟨s.heap[q], Array.getElem?_eq_getElem hq⟩
  obtain ⟨c', hc', he, hsz, hk⟩ := h6 q cell hc
  rw [hc, hc']
  congr 1
  rw [he]
  have hsl : c'.slots = cell.slots := Array.ext_getElem? (fun i => hk i (by simp))
  rw [hsl]
section XT
variable {p : Program} {l : Launch} {e : Env} {R : Room} {s : State} {m : MethodId} {args : Array Value} {below : List Frame} {meth : Method} {c : Code} {nL : Nat} {E : xE} {B A : Nat → Prop} {k n : Nat} {Q : State → Prop} {ws : va_W} {pc : Nat} {lv : List (Nat × Value)} {st rest : List Value} {own mn : String} {cc : ByteArray} {ret : Option FieldType} {hs : List (Nat × Nat × Nat × Nat)}
theorem x_throw (hT : xNoTr l) (hB : xB p s m args meth c E (xNew s.heap.size) own cc nL ret mn hs) {mc ms ix im ic : Nat} {X tx : String} (names : List String)
    (hcl : Cond.classLink own ix X ∈ xG) (hins : Cond.instantiable X 6 ∈ xG) (hini : Cond.initialized X ∈ xG) (hstr : Cond.stringRef own im tx ∈ xG) (hat : ∀ a ∈ Bundle.ownAtoms own ic X names, xTw a)
    (hfit : Bundle.fit X = true) (hnames : ∀ n ∈ names, Bundle.fit n = true) (hk : k + 1 ≤ mc) (hn : n + 6 ≤ ms) (hkR : k + 1 ≤ R.cells ∧ n + 6 ≤ R.slots) (hRf : names.length + 3 < R.frames) (hRl : 13 * (names.length + 1) + 44 ≤ R.locals)
    (hout : ∀ h ∈ hs, ¬ (h.1 ≤ pc + 3 + 1 + 2 + 3 ∧ pc + 3 + 1 + 2 + 3 < h.2.1))
    (d0 : decode cc pc = .ok (.new ix, 3)) (d3 : decode cc (pc + 3) = .ok (.dup, 1)) (d4 : decode cc (pc + 3 + 1) = .ok (.ldc im, 2)) (d6 : decode cc (pc + 3 + 1 + 2) = .ok (.invokespecial ic, 3)) (d9 : decode cc (pc + 3 + 1 + 2 + 3) = .ok (.athrow, 1)) :
    xW p l e R s m args below meth c nL E B (xNew s.heap.size) k n (xPQ below args s mc ms (.inr X)) ws pc lv [] := by
  intro H locs ls hl hP hD hS
  refine W.newc hB.qx hB.qb hB.qo (hB.qt _ hcl) (hB.qt _ hins) (hB.qt _ hini) (g := F0 m pc ls []) rfl d0 hkR.1 hkR.2 (fun cC kC h1 h2 h3 h4 => ?_)
  refine W.eq (g2 := F0 m (pc + 3) ls [.ref H.size]) rfl ?_
  refine lv_dup hB.qx hB.qb d3 rfl ?_
  obtain ⟨k0, cf, i0, q, -, -, -, -, -, hev⟩ := Cond.stringRef_spec hB.qo (hB.qt _ hstr)
  refine va_ldcS hB.qx hB.qb hB.qo (vk_R.of (hB.qt _ hstr) hev) d4 ?_
  intro T hT' X0
  have X : Stand p l e R s m args below meth c T [] (k + 1) (n + 6) := Stand.forget (locs := []) (extra := locs) X0 (fun y hy => hS.2.2 y hy)
  have hout' : ∀ x ∈ c.exceptionTable.toList, covers x (pc + 3 + 1 + 2 + 3) = false := by
    intro x hx
    have h1 : (x.startPc, x.endPc, x.handlerPc, x.catchType) ∈ hs := by rw [← hB.qe]; exact List.mem_map.mpr ⟨x, hx, rfl⟩
    have h2 := hout _ h1
    simp only [covers, Bool.and_eq_false_iff, decide_eq_false_iff_not]
    by_cases h3 : x.startPc ≤ pc + 3 + 1 + 2 + 3
    · exact Or.inr (fun h4 => h2 ⟨h3, h4⟩)
    · exact Or.inl h3
  obtain ⟨U, hst, hrun, hend, hWm, hsame, ce, hce, how⟩ := X.ctorThrowS hB.qx (hT e X.admits) (own := own) (cls := _) (names := names) (ic := ic) hB.qo hfit hnames (fun a ha => (hat a ha).ok hB.qt hB.qz) (fun x hx => by cases hx) (a := H.size) h1 h2 (by rw [hT']; simp [freshCell]) hS.1 (msg := .ref q) rfl (g := F0 m (pc + 3 + 1 + 2) ls [.ref q, .ref H.size, .ref H.size]) rfl (hl.1.trans hB.ql.symm) rfl rfl (rest := []) rfl (by rw [hB.qb]; exact d6) (by rw [hB.qb]; exact d9) hout' hRf (by show 2 * 0 + (1 + 0) + _ ≤ _; omega) (hlocks := hB.qn)
  have hvs : va_F (xNew s.heap.size) s ({ U with vm := s.vm } : State) := x_same hsame
  exact ⟨U, hst, .threw H.size, hrun, hend, ⟨⟨H.size, ce, rfl, hS.1, hce, by rw [how.vm]; rfl, by rw [hWm.alike.findClass]; exact how.cls⟩, hvs⟩, [], ⟨hWm, hsame.mono hk hn⟩, fun q h => by cases h⟩
theorem x_gets (npc : Nat) (hB : xB p s m args meth c E A own cc nL ret mn hs) {C f d : String} {v : Value} {idx : Nat} (hz : va_Z C f d v A s s.heap) (hlk : Cond.fieldLink own idx C f d ∈ xG) (hd : decode cc pc = .ok (.getstatic idx, 3)) (hn : pc + 3 = npc) (kk : xW p l e R s m args below meth c nL E B A k n Q ws npc lv (v :: rest)) : xW p l e R s m args below meth c nL E B A k n Q ws pc lv rest := fun H locs ls hl hP hD hS => by
  subst hn
  exact va_gets hB.qx hB.qb hz hS hB.qo (hB.qt _ hlk) (fun _ h => h) hd (kk H locs ls hl hP hD hS)
theorem x_ti (npc : Nat) (hB : xB p s m args meth c E A own cc nL ret mn hs) {t N j : Nat} {f : Nat → Int32} (hz : va_T .int t N (fun j => .int (f j)) A s s.heap) (hj : j < N) (hN : N < 2147483648) (hd : decode cc pc = .ok (.iaload, 1)) (hn : pc + 1 = npc) (kk : xW p l e R s m args below meth c nL E B A k n Q ws npc lv (.int (f j) :: rest)) : xW p l e R s m args below meth c nL E B A k n Q ws pc lv (.int (nI j) :: .ref t :: rest) := fun H locs ls hl hP hD hS => by
  subst hn
  exact va_ti hB.qx hB.qb hz hS (vp_in_nI hj hN) (by rw [nI_clamp (Nat.lt_trans hj hN)]) hd (kk H locs ls hl hP hD hS)
end XT
end
section
theorem tw_X_60 : ∀ a ∈ Bundle.ownAtoms "LineCoder" 60 "java/lang/IllegalArgumentException" ["java/lang/RuntimeException", "java/lang/Exception"], xTw a := List.forall_mem_cons.mpr ⟨Or.inl w_9, List.forall_mem_cons.mpr ⟨Or.inl w_374, List.forall_mem_cons.mpr ⟨Or.inl w_383, List.forall_mem_cons.mpr ⟨Or.inl w_387, List.forall_mem_cons.mpr ⟨Or.inl w_390, List.forall_mem_cons.mpr ⟨Or.inl w_392, List.forall_mem_cons.mpr ⟨Or.inl w_375, List.forall_mem_cons.mpr ⟨Or.inl w_376, List.forall_mem_cons.mpr ⟨Or.inl w_24, List.forall_mem_cons.mpr ⟨Or.inl w_25, List.forall_mem_cons.mpr ⟨Or.inl w_377, List.forall_mem_cons.mpr ⟨Or.inl w_382, List.forall_mem_cons.mpr ⟨Or.inl w_388, List.forall_mem_cons.mpr ⟨Or.inl w_408, List.forall_mem_cons.mpr ⟨Or.inl w_364, List.forall_mem_cons.mpr ⟨Or.inl w_409, List.forall_mem_cons.mpr ⟨Or.inl w_366, List.forall_mem_cons.mpr ⟨Or.inl w_410, List.forall_mem_cons.mpr ⟨Or.inl w_368, List.forall_mem_cons.mpr ⟨Or.inl w_378, List.forall_mem_cons.mpr ⟨Or.inr (Or.inl rfl), List.forall_mem_cons.mpr ⟨Or.inl w_380, List.forall_mem_cons.mpr ⟨Or.inr (Or.inr (Or.inl rfl)), List.forall_mem_cons.mpr ⟨Or.inl w_370, List.forall_mem_cons.mpr ⟨Or.inl w_404, List.forall_mem_cons.mpr ⟨Or.inl w_405, List.forall_mem_cons.mpr ⟨Or.inl w_407, List.forall_mem_cons.mpr ⟨Or.inl w_370, List.forall_mem_cons.mpr ⟨Or.inl w_395, List.forall_mem_cons.mpr ⟨Or.inl w_396, List.forall_mem_cons.mpr ⟨Or.inl w_397, List.forall_mem_cons.mpr ⟨Or.inl w_398, List.forall_mem_cons.mpr ⟨Or.inl w_356, List.forall_mem_cons.mpr ⟨Or.inl w_398, List.forall_mem_cons.mpr ⟨Or.inl w_399, List.forall_mem_cons.mpr ⟨Or.inl w_400, List.forall_mem_cons.mpr ⟨Or.inl w_401, List.forall_mem_cons.mpr ⟨Or.inl w_358, List.forall_mem_cons.mpr ⟨Or.inl w_401, List.forall_mem_cons.mpr ⟨Or.inl w_402, List.forall_mem_cons.mpr ⟨Or.inl w_403, List.forall_mem_cons.mpr ⟨Or.inl w_404, List.forall_mem_cons.mpr ⟨Or.inl w_360, List.forall_mem_cons.mpr ⟨Or.inl w_394, List.forall_mem_cons.mpr ⟨Or.inl w_353, List.forall_mem_cons.mpr ⟨Or.inl w_354, List.forall_mem_cons.mpr ⟨Or.inl w_361, List.forall_mem_cons.mpr ⟨Or.inl w_362, List.forall_mem_cons.mpr ⟨Or.inl w_363, List.forall_mem_cons.mpr ⟨Or.inl w_365, List.forall_mem_cons.mpr ⟨Or.inl w_367, List.forall_mem_cons.mpr ⟨Or.inl w_369, List.forall_mem_cons.mpr ⟨Or.inr (Or.inr (Or.inr (Or.inl rfl))), List.forall_mem_cons.mpr ⟨Or.inr (Or.inr (Or.inr (Or.inr rfl))), List.forall_mem_cons.mpr ⟨Or.inl w_406, List.forall_mem_cons.mpr ⟨Or.inl w_372, List.forall_mem_cons.mpr ⟨Or.inl w_371, fun _ h => absurd h List.not_mem_nil⟩⟩⟩⟩⟩⟩⟩⟩⟩⟩⟩⟩⟩⟩⟩⟩⟩⟩⟩⟩⟩⟩⟩⟩⟩⟩⟩⟩⟩⟩⟩⟩⟩⟩⟩⟩⟩⟩⟩⟩⟩⟩⟩⟩⟩⟩⟩⟩⟩⟩⟩⟩⟩⟩⟩⟩⟩
theorem tw_X_181 : ∀ a ∈ Bundle.ownAtoms "LineCoder" 181 "java/lang/IllegalStateException" ["java/lang/RuntimeException", "java/lang/Exception"], xTw a := List.forall_mem_cons.mpr ⟨Or.inl w_9, List.forall_mem_cons.mpr ⟨Or.inl w_374, List.forall_mem_cons.mpr ⟨Or.inl w_383, List.forall_mem_cons.mpr ⟨Or.inl w_387, List.forall_mem_cons.mpr ⟨Or.inl w_390, List.forall_mem_cons.mpr ⟨Or.inl w_392, List.forall_mem_cons.mpr ⟨Or.inl w_375, List.forall_mem_cons.mpr ⟨Or.inl w_376, List.forall_mem_cons.mpr ⟨Or.inl w_24, List.forall_mem_cons.mpr ⟨Or.inl w_25, List.forall_mem_cons.mpr ⟨Or.inl w_377, List.forall_mem_cons.mpr ⟨Or.inl w_382, List.forall_mem_cons.mpr ⟨Or.inl w_388, List.forall_mem_cons.mpr ⟨Or.inl w_408, List.forall_mem_cons.mpr ⟨Or.inl w_364, List.forall_mem_cons.mpr ⟨Or.inl w_409, List.forall_mem_cons.mpr ⟨Or.inl w_366, List.forall_mem_cons.mpr ⟨Or.inl w_410, List.forall_mem_cons.mpr ⟨Or.inl w_368, List.forall_mem_cons.mpr ⟨Or.inl w_378, List.forall_mem_cons.mpr ⟨Or.inr (Or.inl rfl), List.forall_mem_cons.mpr ⟨Or.inl w_380, List.forall_mem_cons.mpr ⟨Or.inr (Or.inr (Or.inl rfl)), List.forall_mem_cons.mpr ⟨Or.inl w_370, List.forall_mem_cons.mpr ⟨Or.inl w_404, List.forall_mem_cons.mpr ⟨Or.inl w_405, List.forall_mem_cons.mpr ⟨Or.inl w_407, List.forall_mem_cons.mpr ⟨Or.inl w_370, List.forall_mem_cons.mpr ⟨Or.inl w_455, List.forall_mem_cons.mpr ⟨Or.inl w_456, List.forall_mem_cons.mpr ⟨Or.inl w_457, List.forall_mem_cons.mpr ⟨Or.inl w_398, List.forall_mem_cons.mpr ⟨Or.inl w_356, List.forall_mem_cons.mpr ⟨Or.inl w_398, List.forall_mem_cons.mpr ⟨Or.inl w_399, List.forall_mem_cons.mpr ⟨Or.inl w_400, List.forall_mem_cons.mpr ⟨Or.inl w_401, List.forall_mem_cons.mpr ⟨Or.inl w_358, List.forall_mem_cons.mpr ⟨Or.inl w_401, List.forall_mem_cons.mpr ⟨Or.inl w_402, List.forall_mem_cons.mpr ⟨Or.inl w_403, List.forall_mem_cons.mpr ⟨Or.inl w_404, List.forall_mem_cons.mpr ⟨Or.inl w_360, List.forall_mem_cons.mpr ⟨Or.inl w_454, List.forall_mem_cons.mpr ⟨Or.inl w_445, List.forall_mem_cons.mpr ⟨Or.inl w_446, List.forall_mem_cons.mpr ⟨Or.inl w_447, List.forall_mem_cons.mpr ⟨Or.inl w_385, List.forall_mem_cons.mpr ⟨Or.inl w_448, List.forall_mem_cons.mpr ⟨Or.inl w_449, List.forall_mem_cons.mpr ⟨Or.inl w_450, List.forall_mem_cons.mpr ⟨Or.inl w_451, List.forall_mem_cons.mpr ⟨Or.inr (Or.inr (Or.inr (Or.inl rfl))), List.forall_mem_cons.mpr ⟨Or.inr (Or.inr (Or.inr (Or.inr rfl))), List.forall_mem_cons.mpr ⟨Or.inl w_406, List.forall_mem_cons.mpr ⟨Or.inl w_372, List.forall_mem_cons.mpr ⟨Or.inl w_452, fun _ h => absurd h List.not_mem_nil⟩⟩⟩⟩⟩⟩⟩⟩⟩⟩⟩⟩⟩⟩⟩⟩⟩⟩⟩⟩⟩⟩⟩⟩⟩⟩⟩⟩⟩⟩⟩⟩⟩⟩⟩⟩⟩⟩⟩⟩⟩⟩⟩⟩⟩⟩⟩⟩⟩⟩⟩⟩⟩⟩⟩⟩⟩
theorem tw_X_110 : ∀ a ∈ Bundle.ownAtoms "LineCoder" 110 "java/lang/IndexOutOfBoundsException" ["java/lang/RuntimeException", "java/lang/Exception"], xTw a := List.forall_mem_cons.mpr ⟨Or.inl w_9, List.forall_mem_cons.mpr ⟨Or.inl w_374, List.forall_mem_cons.mpr ⟨Or.inl w_383, List.forall_mem_cons.mpr ⟨Or.inl w_387, List.forall_mem_cons.mpr ⟨Or.inl w_390, List.forall_mem_cons.mpr ⟨Or.inl w_392, List.forall_mem_cons.mpr ⟨Or.inl w_375, List.forall_mem_cons.mpr ⟨Or.inl w_376, List.forall_mem_cons.mpr ⟨Or.inl w_24, List.forall_mem_cons.mpr ⟨Or.inl w_25, List.forall_mem_cons.mpr ⟨Or.inl w_377, List.forall_mem_cons.mpr ⟨Or.inl w_382, List.forall_mem_cons.mpr ⟨Or.inl w_388, List.forall_mem_cons.mpr ⟨Or.inl w_408, List.forall_mem_cons.mpr ⟨Or.inl w_364, List.forall_mem_cons.mpr ⟨Or.inl w_409, List.forall_mem_cons.mpr ⟨Or.inl w_366, List.forall_mem_cons.mpr ⟨Or.inl w_410, List.forall_mem_cons.mpr ⟨Or.inl w_368, List.forall_mem_cons.mpr ⟨Or.inl w_378, List.forall_mem_cons.mpr ⟨Or.inr (Or.inl rfl), List.forall_mem_cons.mpr ⟨Or.inl w_380, List.forall_mem_cons.mpr ⟨Or.inr (Or.inr (Or.inl rfl)), List.forall_mem_cons.mpr ⟨Or.inl w_370, List.forall_mem_cons.mpr ⟨Or.inl w_404, List.forall_mem_cons.mpr ⟨Or.inl w_405, List.forall_mem_cons.mpr ⟨Or.inl w_407, List.forall_mem_cons.mpr ⟨Or.inl w_370, List.forall_mem_cons.mpr ⟨Or.inl w_513, List.forall_mem_cons.mpr ⟨Or.inl w_514, List.forall_mem_cons.mpr ⟨Or.inl w_515, List.forall_mem_cons.mpr ⟨Or.inl w_398, List.forall_mem_cons.mpr ⟨Or.inl w_356, List.forall_mem_cons.mpr ⟨Or.inl w_398, List.forall_mem_cons.mpr ⟨Or.inl w_399, List.forall_mem_cons.mpr ⟨Or.inl w_400, List.forall_mem_cons.mpr ⟨Or.inl w_401, List.forall_mem_cons.mpr ⟨Or.inl w_358, List.forall_mem_cons.mpr ⟨Or.inl w_401, List.forall_mem_cons.mpr ⟨Or.inl w_402, List.forall_mem_cons.mpr ⟨Or.inl w_403, List.forall_mem_cons.mpr ⟨Or.inl w_404, List.forall_mem_cons.mpr ⟨Or.inl w_360, List.forall_mem_cons.mpr ⟨Or.inl w_512, List.forall_mem_cons.mpr ⟨Or.inl w_503, List.forall_mem_cons.mpr ⟨Or.inl w_504, List.forall_mem_cons.mpr ⟨Or.inl w_505, List.forall_mem_cons.mpr ⟨Or.inl w_386, List.forall_mem_cons.mpr ⟨Or.inl w_506, List.forall_mem_cons.mpr ⟨Or.inl w_507, List.forall_mem_cons.mpr ⟨Or.inl w_508, List.forall_mem_cons.mpr ⟨Or.inl w_509, List.forall_mem_cons.mpr ⟨Or.inr (Or.inr (Or.inr (Or.inl rfl))), List.forall_mem_cons.mpr ⟨Or.inr (Or.inr (Or.inr (Or.inr rfl))), List.forall_mem_cons.mpr ⟨Or.inl w_406, List.forall_mem_cons.mpr ⟨Or.inl w_372, List.forall_mem_cons.mpr ⟨Or.inl w_510, fun _ h => absurd h List.not_mem_nil⟩⟩⟩⟩⟩⟩⟩⟩⟩⟩⟩⟩⟩⟩⟩⟩⟩⟩⟩⟩⟩⟩⟩⟩⟩⟩⟩⟩⟩⟩⟩⟩⟩⟩⟩⟩⟩⟩⟩⟩⟩⟩⟩⟩⟩⟩⟩⟩⟩⟩⟩⟩⟩⟩⟩⟩⟩
end
section
abbrev rm_L_size : Room := { frames := 0, cells := 0, slots := 0, locals := 0 }
set_option maxHeartbeats 4000000 in
set_option maxRecDepth 100000 in
theorem c_L_size (l : Launch) (E : xE) (h0 a0 n p : Nat) : xCp l E y_L_size (.code y_L_size prog_2_method_3_code 1 (some .int)) rm_L_size [.ref h0] [(h0, .inr (0, [.ref a0, .int (nI (n)), .int (nI (p))]))] (.inl (some (.int (nI (n))))) := by
  refine x_ofP (own := "LineCoder$Line") (mn := "size") (lv := [(0, .ref h0)]) (plainFor_of_name (by decide)) rfl rfl (Nat.le_of_ble_eq_true rfl) rfl ?_
  intro p_ e_ s_ m_ ar_ be_ me_ c_ hB
  refine x_aload_n 1 hB d_L_size_0 rfl rfl ?_
  refine x_get 4 hB 0 fg_L_15_0 rfl rfl d_L_size_1 rfl ?_
  exact x_iretP hB (rfl) (by decide) (by decide) d_L_size_4
abbrev rm_L_place : Room := { frames := 0, cells := 0, slots := 0, locals := 0 }
set_option maxHeartbeats 4000000 in
set_option maxRecDepth 100000 in
theorem c_L_place (l : Launch) (E : xE) (h0 a0 n p : Nat) : xCp l E y_L_place (.code y_L_place prog_2_method_4_code 1 (some .int)) rm_L_place [.ref h0] [(h0, .inr (0, [.ref a0, .int (nI (n)), .int (nI (p))]))] (.inl (some (.int (nI (p))))) := by
  refine x_ofP (own := "LineCoder$Line") (mn := "place") (lv := [(0, .ref h0)]) (plainFor_of_name (by decide)) rfl rfl (Nat.le_of_ble_eq_true rfl) rfl ?_
  intro p_ e_ s_ m_ ar_ be_ me_ c_ hB
  refine x_aload_n 1 hB d_L_place_0 rfl rfl ?_
  refine x_get 4 hB 0 fg_L_19_0 rfl rfl d_L_place_1 rfl ?_
  exact x_iretP hB (rfl) (by decide) (by decide) d_L_place_4
abbrev rm_L_left : Room := { frames := 0, cells := 0, slots := 0, locals := 0 }
set_option maxHeartbeats 4000000 in
set_option maxRecDepth 100000 in
theorem c_L_left (l : Launch) (E : xE) (h0 a0 n p : Nat) (hp : p ≤ n) : xCp l E y_L_left (.code y_L_left prog_2_method_5_code 1 (some .int)) rm_L_left [.ref h0] [(h0, .inr (0, [.ref a0, .int (nI (n)), .int (nI (p))]))] (.inl (some (.int (nI (n - p))))) := by
  refine x_ofP (own := "LineCoder$Line") (mn := "left") (lv := [(0, .ref h0)]) (plainFor_of_name (by decide)) rfl rfl (Nat.le_of_ble_eq_true rfl) rfl ?_
  intro p_ e_ s_ m_ ar_ be_ me_ c_ hB
  refine x_aload_n 1 hB d_L_left_0 rfl rfl ?_
  refine x_get 4 hB 0 fg_L_15_0 rfl rfl d_L_left_1 rfl ?_
  refine x_aload_n 5 hB d_L_left_4 rfl rfl ?_
  refine x_get 8 hB 0 fg_L_19_0 rfl rfl d_L_left_5 rfl ?_
  refine x_isub 9 hB d_L_left_8 rfl ?_
  refine x_top (v' := .int (nI (n - p))) (congrArg Value.int (pk_sub hp)) ?_
  exact x_iretP hB (rfl) (by decide) (by decide) d_L_left_9
abbrev rm_L_empty : Room := { frames := 0, cells := 0, slots := 0, locals := 0 }
set_option maxHeartbeats 4000000 in
set_option maxRecDepth 100000 in
theorem c_L_empty (l : Launch) (E : xE) (h0 a0 n p : Nat) : xC l E y_L_empty (.code y_L_empty prog_2_method_2_code 1 none) rm_L_empty [.ref h0] [(h0, .inr (0, [.ref a0, .int (nI (n)), .int (nI (p))]))] (xRet none [(h0, .inr (0, [.ref a0, .int (nI (0)), .int (nI (0))]))]) := by
  refine x_of' (own := "LineCoder$Line") (mn := "empty") (lv := [(0, .ref h0)]) (plainFor_of_name (by decide)) rfl rfl (Nat.le_of_ble_eq_true rfl) rfl ?_
  intro p_ e_ s_ m_ ar_ be_ me_ c_ A_ hA hB
  refine x_aload_n 1 hB d_L_empty_0 rfl rfl ?_
  refine x_iconst (v := nI 0) 2 hB d_L_empty_1 rfl (by decide) ?_
  refine x_put 5 hB 0 (ws' := [(h0, .inr (0, [.ref a0, .int (nI 0), .int (nI (p))]))]) fp_L_15_0 rfl (rfl) (rfl) (Nat.le_of_ble_eq_true rfl) rfl d_L_empty_2 rfl ?_
  refine x_aload_n 6 hB d_L_empty_5 rfl rfl ?_
  refine x_iconst (v := nI 0) 7 hB d_L_empty_6 rfl (by decide) ?_
  refine x_put 10 hB 0 (ws' := [(h0, .inr (0, [.ref a0, .int (nI 0), .int (nI 0)]))]) fp_L_19_0 rfl (rfl) (rfl) (Nat.le_of_ble_eq_true rfl) rfl d_L_empty_7 rfl ?_
  exact x_vret hB (w' := [(h0, .inr (0, [.ref a0, .int (nI 0), .int (nI 0)]))]) hA [0] rfl rfl (xRet_i) (by decide) (by decide) d_L_empty_10
abbrev rm_L_has_in : Room := { frames := 0, cells := 0, slots := 0, locals := 0 }
set_option maxHeartbeats 4000000 in
set_option maxRecDepth 100000 in
theorem c_L_has_in (l : Launch) (E : xE) (h0 a0 n p : Nat) (j : Nat) (hj : j < n) (hn : n ≤ 2640) : xCp l E y_L_has (.code y_L_has prog_2_method_6_code 2 (some .boolean)) rm_L_has_in [.ref h0, .int (nI (j))] [(h0, .inr (0, [.ref a0, .int (nI (n)), .int (nI (p))]))] (.inl (some (.int (nI 1)))) := by
  refine x_ofP (own := "LineCoder$Line") (mn := "has") (lv := [(0, .ref h0), (1, .int (nI (j)))]) (plainFor_of_name (by decide)) rfl rfl (Nat.le_of_ble_eq_true rfl) rfl ?_
  intro p_ e_ s_ m_ ar_ be_ me_ c_ hB
  refine x_iload_n 1 hB d_L_has_0 rfl rfl ?_
  refine x_if_lt 16 4 hB d_L_has_1 (by decide) rfl (fun hc => absurd hc (nI_pos (by omega))) (fun _ => ?_)
  refine x_iload_n 5 hB d_L_has_4 rfl rfl ?_
  refine x_aload_n 6 hB d_L_has_5 rfl rfl ?_
  refine x_get 9 hB 0 fg_L_15_0 rfl rfl d_L_has_6 rfl ?_
  refine x_icmp_ge 16 12 hB d_L_has_9 (by decide) rfl (fun hc => absurd hc (nI_ge hj (by omega))) (fun _ => ?_)
  refine x_iconst (v := nI 1) 13 hB d_L_has_12 rfl (by decide) ?_
  refine x_goto 17 hB d_L_has_13 (by decide) ?_
  exact x_zretP hB (by decide) (rfl) (by decide) (by decide) d_L_has_17
abbrev rm_L_has_out : Room := { frames := 0, cells := 0, slots := 0, locals := 0 }
set_option maxHeartbeats 4000000 in
set_option maxRecDepth 100000 in
theorem c_L_has_out (l : Launch) (E : xE) (h0 a0 n p : Nat) (k : Int32) (hk : k < 0 ∨ nI n ≤ k) : xCp l E y_L_has (.code y_L_has prog_2_method_6_code 2 (some .boolean)) rm_L_has_out [.ref h0, .int (k)] [(h0, .inr (0, [.ref a0, .int (nI (n)), .int (nI (p))]))] (.inl (some (.int (nI 0)))) := by
  refine x_ofP (own := "LineCoder$Line") (mn := "has") (lv := [(0, .ref h0), (1, .int (k))]) (plainFor_of_name (by decide)) rfl rfl (Nat.le_of_ble_eq_true rfl) rfl ?_
  intro p_ e_ s_ m_ ar_ be_ me_ c_ hB
  refine x_iload_n 1 hB d_L_has_0 rfl rfl ?_
  refine x_if_lt 16 4 hB d_L_has_1 (by decide) rfl (fun h1 => ?_) (fun h1 => ?_)
  · skip
    refine x_iconst (v := nI 0) 17 hB d_L_has_16 rfl (by decide) ?_
    exact x_zretP hB (by decide) (rfl) (by decide) (by decide) d_L_has_17
  · skip
    refine x_iload_n 5 hB d_L_has_4 rfl rfl ?_
    refine x_aload_n 6 hB d_L_has_5 rfl rfl ?_
    refine x_get 9 hB 0 fg_L_15_0 rfl rfl d_L_has_6 rfl ?_
    refine x_icmp_ge 16 12 hB d_L_has_9 (by decide) rfl (fun _ => ?_) (fun hc => absurd (hk.resolve_left h1) hc)
    refine x_iconst (v := nI 0) 17 hB d_L_has_16 rfl (by decide) ?_
    exact x_zretP hB (by decide) (rfl) (by decide) (by decide) d_L_has_17
abbrev rm_L_hasRoom_y : Room := { frames := 0, cells := 0, slots := 0, locals := 0 }
set_option maxHeartbeats 4000000 in
set_option maxRecDepth 100000 in
theorem c_L_hasRoom_y (l : Launch) (E : xE) (h0 a0 n p : Nat) (q : Nat) (hq : n + q ≤ 2640) : xCp l E y_L_hasRoom (.code y_L_hasRoom prog_2_method_7_code 2 (some .boolean)) rm_L_hasRoom_y [.ref h0, .int (nI (q))] [(h0, .inr (0, [.ref a0, .int (nI (n)), .int (nI (p))]))] (.inl (some (.int (nI 1)))) := by
  refine x_ofP (own := "LineCoder$Line") (mn := "hasRoom") (lv := [(0, .ref h0), (1, .int (nI (q)))]) (plainFor_of_name (by decide)) rfl rfl (Nat.le_of_ble_eq_true rfl) rfl ?_
  intro p_ e_ s_ m_ ar_ be_ me_ c_ hB
  refine x_iload_n 1 hB d_L_hasRoom_0 rfl rfl ?_
  refine x_sipush (v := nI 2640) 4 hB d_L_hasRoom_1 rfl (by decide) ?_
  refine x_aload_n 5 hB d_L_hasRoom_4 rfl rfl ?_
  refine x_get 8 hB 0 fg_L_15_0 rfl rfl d_L_hasRoom_5 rfl ?_
  refine x_isub 9 hB d_L_hasRoom_8 rfl ?_
  refine x_top (v' := .int (nI (2640 - n))) (congrArg Value.int (pk_sub (by omega))) ?_
  refine x_icmp_gt 16 12 hB d_L_hasRoom_9 (by decide) rfl (fun hc => absurd hc (nI_nlt (by omega) (by omega))) (fun _ => ?_)
  refine x_iconst (v := nI 1) 13 hB d_L_hasRoom_12 rfl (by decide) ?_
  refine x_goto 17 hB d_L_hasRoom_13 (by decide) ?_
  exact x_zretP hB (by decide) (rfl) (by decide) (by decide) d_L_hasRoom_17
abbrev rm_L_hasRoom_n : Room := { frames := 0, cells := 0, slots := 0, locals := 0 }
set_option maxHeartbeats 4000000 in
set_option maxRecDepth 100000 in
theorem c_L_hasRoom_n (l : Launch) (E : xE) (h0 a0 n p : Nat) (q : Nat) (hn : n ≤ 2640) (hq : 2640 < n + q) (hq2 : q ≤ 66) : xCp l E y_L_hasRoom (.code y_L_hasRoom prog_2_method_7_code 2 (some .boolean)) rm_L_hasRoom_n [.ref h0, .int (nI (q))] [(h0, .inr (0, [.ref a0, .int (nI (n)), .int (nI (p))]))] (.inl (some (.int (nI 0)))) := by
  refine x_ofP (own := "LineCoder$Line") (mn := "hasRoom") (lv := [(0, .ref h0), (1, .int (nI (q)))]) (plainFor_of_name (by decide)) rfl rfl (Nat.le_of_ble_eq_true rfl) rfl ?_
  intro p_ e_ s_ m_ ar_ be_ me_ c_ hB
  refine x_iload_n 1 hB d_L_hasRoom_0 rfl rfl ?_
  refine x_sipush (v := nI 2640) 4 hB d_L_hasRoom_1 rfl (by decide) ?_
  refine x_aload_n 5 hB d_L_hasRoom_4 rfl rfl ?_
  refine x_get 8 hB 0 fg_L_15_0 rfl rfl d_L_hasRoom_5 rfl ?_
  refine x_isub 9 hB d_L_hasRoom_8 rfl ?_
  refine x_top (v' := .int (nI (2640 - n))) (congrArg Value.int (pk_sub (by omega))) ?_
  refine x_icmp_gt 16 12 hB d_L_hasRoom_9 (by decide) rfl (fun _ => ?_) (fun hc => absurd (nI_lt (by omega) (by omega)) hc)
  refine x_iconst (v := nI 0) 17 hB d_L_hasRoom_16 rfl (by decide) ?_
  exact x_zretP hB (by decide) (rfl) (by decide) (by decide) d_L_hasRoom_17
abbrev rm_L_at_in : Room := { frames := 1, cells := 0, slots := 0, locals := 21 }
set_option maxHeartbeats 4000000 in
set_option maxRecDepth 100000 in
theorem c_L_at_in (l : Launch) (E : xE) (h0 a0 n p : Nat) (f : Nat → Int32) (j : Nat) (hj : j < n) (hn : n ≤ 2640) : xCp l E y_L_at (.code y_L_at prog_2_method_8_code 2 (some .int)) rm_L_at_in [.ref h0, .int (nI (j))] [(h0, .inr (0, [.ref a0, .int (nI (n)), .int (nI (p))])), (a0, .inl (E.2 0, 2640, .inl (f)))] (.inl (some (.int ((f) (j))))) := by
  refine x_ofP (own := "LineCoder$Line") (mn := "at") (lv := [(0, .ref h0), (1, .int (nI (j)))]) (plainFor_of_name (by decide)) rfl rfl (Nat.le_of_ble_eq_true rfl) rfl ?_
  intro p_ e_ s_ m_ ar_ be_ me_ c_ hB
  refine x_aload_n 1 hB d_L_at_0 rfl rfl ?_
  refine x_iload_n 2 hB d_L_at_1 rfl rfl ?_
  refine x_callP (k' := 0) (n' := 0) (rest := []) (st' := [.int (nI 1)]) 5 hB (x_pfV (av := [.int (nI (j))]) (q0 := 0) hB w_177 xHd_code w_174 w_175 w_176 rfl rfl nm_L_has rfl d_L_at_2) (c_L_has_in l E h0 a0 n p j hj hn) w_177 xHd_code w_2 [0] rfl rfl ⟨by decide, by decide⟩ ⟨by decide, by decide⟩ rfl rfl (Nat.le_of_ble_eq_true rfl) d_L_at_2 rfl rfl ?_
  refine x_if_eq 17 8 hB d_L_at_5 (by decide) rfl (fun hc => absurd hc (by decide)) (fun _ => ?_)
  refine x_aload_n 9 hB d_L_at_8 rfl rfl ?_
  refine x_get 12 hB 0 fg_L_11_0 rfl rfl d_L_at_9 rfl ?_
  refine x_iload_n 13 hB d_L_at_12 rfl rfl ?_
  refine x_bald 14 hB 1 rfl (by omega) (by decide) d_L_at_13 rfl ?_
  refine x_goto 18 hB d_L_at_14 (by decide) ?_
  exact x_iretP hB (rfl) (by decide) (by decide) d_L_at_18
abbrev rm_L_at_out : Room := { frames := 1, cells := 0, slots := 0, locals := 21 }
set_option maxHeartbeats 4000000 in
set_option maxRecDepth 100000 in
theorem c_L_at_out (l : Launch) (E : xE) (h0 a0 n p : Nat) (f : Nat → Int32) (k : Int32) (hk : k < 0 ∨ nI n ≤ k) : xCp l E y_L_at (.code y_L_at prog_2_method_8_code 2 (some .int)) rm_L_at_out [.ref h0, .int (k)] [(h0, .inr (0, [.ref a0, .int (nI (n)), .int (nI (p))])), (a0, .inl (E.2 0, 2640, .inl (f)))] (.inl (some (.int (-1)))) := by
  refine x_ofP (own := "LineCoder$Line") (mn := "at") (lv := [(0, .ref h0), (1, .int (k))]) (plainFor_of_name (by decide)) rfl rfl (Nat.le_of_ble_eq_true rfl) rfl ?_
  intro p_ e_ s_ m_ ar_ be_ me_ c_ hB
  refine x_aload_n 1 hB d_L_at_0 rfl rfl ?_
  refine x_iload_n 2 hB d_L_at_1 rfl rfl ?_
  refine x_callP (k' := 0) (n' := 0) (rest := []) (st' := [.int (nI 0)]) 5 hB (x_pfV (av := [.int (k)]) (q0 := 0) hB w_177 xHd_code w_174 w_175 w_176 rfl rfl nm_L_has rfl d_L_at_2) (c_L_has_out l E h0 a0 n p k hk) w_177 xHd_code w_2 [0] rfl rfl ⟨by decide, by decide⟩ ⟨by decide, by decide⟩ rfl rfl (Nat.le_of_ble_eq_true rfl) d_L_at_2 rfl rfl ?_
  refine x_if_eq 17 8 hB d_L_at_5 (by decide) rfl (fun _ => ?_) (fun hc => absurd (by decide) hc)
  refine x_iconst (v := (-1 : Int32)) 18 hB d_L_at_17 rfl (by decide) ?_
  exact x_iretP hB (rfl) (by decide) (by decide) d_L_at_18
abbrev rm_L_turn : Room := { frames := 1, cells := 0, slots := 0, locals := 21 }
set_option maxHeartbeats 4000000 in
set_option maxRecDepth 100000 in
theorem c_L_turn (l : Launch) (E : xE) (h0 a0 n p : Nat) (f : Nat → Int32) (j : Nat) (hj : j < n) (hn : n ≤ 2640) (hb : f j = 0 ∨ f j = 1) : xC l E y_L_turn (.code y_L_turn prog_2_method_9_code 2 none) rm_L_turn [.ref h0, .int (nI (j))] [(h0, .inr (0, [.ref a0, .int (nI (n)), .int (nI (p))])), (a0, .inl (E.2 0, 2640, .inl (f)))] (xRet none [(h0, .inr (0, [.ref a0, .int (nI (n)), .int (nI (p))])), (a0, .inl (E.2 0, 2640, .inl (upd f j (1 - f j))))]) := by
  refine x_of' (own := "LineCoder$Line") (mn := "turn") (lv := [(0, .ref h0), (1, .int (nI (j)))]) (plainFor_of_name (by decide)) rfl rfl (Nat.le_of_ble_eq_true rfl) rfl ?_
  intro p_ e_ s_ m_ ar_ be_ me_ c_ A_ hA hB
  refine x_aload_n 1 hB d_L_turn_0 rfl rfl ?_
  refine x_iload_n 2 hB d_L_turn_1 rfl rfl ?_
  refine x_callP (k' := 0) (n' := 0) (rest := []) (st' := [.int (nI 1)]) 5 hB (x_pfV (av := [.int (nI (j))]) (q0 := 0) hB w_177 xHd_code w_174 w_175 w_176 rfl rfl nm_L_has rfl d_L_turn_2) (c_L_has_in l E h0 a0 n p j hj hn) w_177 xHd_code w_2 [0] rfl rfl ⟨by decide, by decide⟩ ⟨by decide, by decide⟩ rfl rfl (Nat.le_of_ble_eq_true rfl) d_L_turn_2 rfl rfl ?_
  refine x_if_eq 23 8 hB d_L_turn_5 (by decide) rfl (fun hc => absurd hc (by decide)) (fun _ => ?_)
  refine x_aload_n 9 hB d_L_turn_8 rfl rfl ?_
  refine x_get 12 hB 0 fg_L_11_0 rfl rfl d_L_turn_9 rfl ?_
  refine x_iload_n 13 hB d_L_turn_12 rfl rfl ?_
  refine x_iconst (v := nI 1) 14 hB d_L_turn_13 rfl (by decide) ?_
  refine x_aload_n 15 hB d_L_turn_14 rfl rfl ?_
  refine x_get 18 hB 0 fg_L_11_0 rfl rfl d_L_turn_15 rfl ?_
  refine x_iload_n 19 hB d_L_turn_18 rfl rfl ?_
  refine x_bald 20 hB 1 rfl (by omega) (by decide) d_L_turn_19 rfl ?_
  refine x_isub 21 hB d_L_turn_20 rfl ?_
  refine x_i2b (v := 1 - f j) 22 hB d_L_turn_21 rfl (by rcases hb with h | h <;> rw [h] <;> decide) ?_
  refine x_bast 23 hB 1 (ws' := [(h0, .inr (0, [.ref a0, .int (nI (n)), .int (nI (p))])), (a0, .inl (E.2 0, 2640, .inl (upd f j (1 - f j))))]) rfl (by omega) (by decide) (x' := 1 - f j) (by rcases hb with h | h <;> rw [h] <;> decide) rfl d_L_turn_22 rfl ?_
  exact x_vret hB (w' := [(h0, .inr (0, [.ref a0, .int (nI (n)), .int (nI (p))])), (a0, .inl (E.2 0, 2640, .inl (upd f j (1 - f j))))]) hA [0, 1] rfl rfl (xRet_i) (by decide) (by decide) d_L_turn_23
abbrev rm_JM_min : Room := { frames := 0, cells := 0, slots := 0, locals := 0 }
set_option maxHeartbeats 4000000 in
set_option maxRecDepth 100000 in
theorem c_JM_min (l : Launch) (E : xE) (a b : Int32) (h : ¬ b < a) : xCp l E y_JM_min (.code y_JM_min prog_16_method_69_code 2 (some .int)) rm_JM_min [.int (a), .int (b)] [] (.inl (some (.int (a)))) := by
  refine x_ofP (own := "java/lang/Math") (mn := "min") (lv := [(0, .int (a)), (1, .int (b))]) (by decide +kernel) rfl rfl (Nat.le_of_ble_eq_true rfl) rfl ?_
  intro p_ e_ s_ m_ ar_ be_ me_ c_ hB
  refine x_iload_n 1 hB d_JM_min_0 rfl rfl ?_
  refine x_iload_n 2 hB d_JM_min_1 rfl rfl ?_
  refine x_icmp_gt 9 5 hB d_JM_min_2 (by decide) rfl (fun hc => absurd hc (h)) (fun _ => ?_)
  refine x_iload_n 6 hB d_JM_min_5 rfl rfl ?_
  refine x_goto 10 hB d_JM_min_6 (by decide) ?_
  exact x_iretP hB (rfl) (by decide) (by decide) d_JM_min_10
abbrev rm_JM_min_r : Room := { frames := 0, cells := 0, slots := 0, locals := 0 }
set_option maxHeartbeats 4000000 in
set_option maxRecDepth 100000 in
theorem c_JM_min_r (l : Launch) (E : xE) (a b : Int32) (h : b < a) : xCp l E y_JM_min (.code y_JM_min prog_16_method_69_code 2 (some .int)) rm_JM_min_r [.int (a), .int (b)] [] (.inl (some (.int (b)))) := by
  refine x_ofP (own := "java/lang/Math") (mn := "min") (lv := [(0, .int (a)), (1, .int (b))]) (by decide +kernel) rfl rfl (Nat.le_of_ble_eq_true rfl) rfl ?_
  intro p_ e_ s_ m_ ar_ be_ me_ c_ hB
  refine x_iload_n 1 hB d_JM_min_0 rfl rfl ?_
  refine x_iload_n 2 hB d_JM_min_1 rfl rfl ?_
  refine x_icmp_gt 9 5 hB d_JM_min_2 (by decide) rfl (fun _ => ?_) (fun hc => absurd (h) hc)
  refine x_iload_n 10 hB d_JM_min_9 rfl rfl ?_
  exact x_iretP hB (rfl) (by decide) (by decide) d_JM_min_10
abbrev rm_JM_max : Room := { frames := 0, cells := 0, slots := 0, locals := 0 }
set_option maxHeartbeats 4000000 in
set_option maxRecDepth 100000 in
theorem c_JM_max (l : Launch) (E : xE) (a b : Int32) (h : ¬ a < b) : xCp l E y_JM_max (.code y_JM_max prog_16_method_65_code 2 (some .int)) rm_JM_max [.int (a), .int (b)] [] (.inl (some (.int (a)))) := by
  refine x_ofP (own := "java/lang/Math") (mn := "max") (lv := [(0, .int (a)), (1, .int (b))]) (by decide +kernel) rfl rfl (Nat.le_of_ble_eq_true rfl) rfl ?_
  intro p_ e_ s_ m_ ar_ be_ me_ c_ hB
  refine x_iload_n 1 hB d_JM_max_0 rfl rfl ?_
  refine x_iload_n 2 hB d_JM_max_1 rfl rfl ?_
  refine x_icmp_lt 9 5 hB d_JM_max_2 (by decide) rfl (fun hc => absurd hc (h)) (fun _ => ?_)
  refine x_iload_n 6 hB d_JM_max_5 rfl rfl ?_
  refine x_goto 10 hB d_JM_max_6 (by decide) ?_
  exact x_iretP hB (rfl) (by decide) (by decide) d_JM_max_10
abbrev rm_JM_max_r : Room := { frames := 0, cells := 0, slots := 0, locals := 0 }
set_option maxHeartbeats 4000000 in
set_option maxRecDepth 100000 in
theorem c_JM_max_r (l : Launch) (E : xE) (a b : Int32) (h : a < b) : xCp l E y_JM_max (.code y_JM_max prog_16_method_65_code 2 (some .int)) rm_JM_max_r [.int (a), .int (b)] [] (.inl (some (.int (b)))) := by
  refine x_ofP (own := "java/lang/Math") (mn := "max") (lv := [(0, .int (a)), (1, .int (b))]) (by decide +kernel) rfl rfl (Nat.le_of_ble_eq_true rfl) rfl ?_
  intro p_ e_ s_ m_ ar_ be_ me_ c_ hB
  refine x_iload_n 1 hB d_JM_max_0 rfl rfl ?_
  refine x_iload_n 2 hB d_JM_max_1 rfl rfl ?_
  refine x_icmp_lt 9 5 hB d_JM_max_2 (by decide) rfl (fun _ => ?_) (fun hc => absurd (h) hc)
  refine x_iload_n 10 hB d_JM_max_9 rfl rfl ?_
  exact x_iretP hB (rfl) (by decide) (by decide) d_JM_max_10
abbrev rm_L_advance : Room := { frames := 1, cells := 0, slots := 0, locals := 21 }
set_option maxHeartbeats 4000000 in
set_option maxRecDepth 100000 in
theorem c_L_advance (l : Launch) (E : xE) (h0 a0 n p : Nat) (q : Nat) (hp : p + q ≤ n) (hn : n ≤ 2640) : xC l E y_L_advance (.code y_L_advance prog_2_method_13_code 2 none) rm_L_advance [.ref h0, .int (nI (q))] [(h0, .inr (0, [.ref a0, .int (nI (n)), .int (nI (p))]))] (xRet none [(h0, .inr (0, [.ref a0, .int (nI (n)), .int (nI (p + q))]))]) := by
  refine x_of' (own := "LineCoder$Line") (mn := "advance") (lv := [(0, .ref h0), (1, .int (nI (q)))]) (plainFor_of_name (by decide)) rfl rfl (Nat.le_of_ble_eq_true rfl) rfl ?_
  intro p_ e_ s_ m_ ar_ be_ me_ c_ A_ hA hB
  refine x_aload_n 1 hB d_L_advance_0 rfl rfl ?_
  refine x_dup 2 hB d_L_advance_1 rfl rfl ?_
  refine x_get 5 hB 0 fg_L_19_0 rfl rfl d_L_advance_2 rfl ?_
  refine x_iload_n 6 hB d_L_advance_5 rfl rfl ?_
  refine x_aload_n 7 hB d_L_advance_6 rfl rfl ?_
  refine x_callP (k' := 0) (n' := 0) (rest := [.int (nI (q)), .int (nI (p)), .ref h0]) (st' := [.int (nI (n - p)), .int (nI (q)), .int (nI (p)), .ref h0]) 10 hB (x_pfV (av := []) (q0 := 0) hB w_161 xHd_code w_188 w_159 w_160 rfl rfl nm_L_left rfl d_L_advance_7) (c_L_left l E h0 a0 n p (by omega)) w_161 xHd_code w_2 [0] rfl rfl ⟨by decide, by decide⟩ ⟨by decide, by decide⟩ rfl rfl (Nat.le_of_ble_eq_true rfl) d_L_advance_7 rfl rfl ?_
  refine x_callP (k' := 0) (n' := 0) (rest := [.int (nI (p)), .ref h0]) (st' := [.int (nI (q)), .int (nI (p)), .ref h0]) 13 hB (x_pfS (av := [.int (nI (q)), .int (nI (n - p))]) hB w_191 xHd_code w_15 w_189 w_190 nm_JM_min rfl d_L_advance_10) (c_JM_min l E (nI q) (nI (n - p)) (nI_nlt (by omega) (by omega))) w_191 xHd_code w_15 [] rfl rfl ⟨by decide, by decide⟩ ⟨by decide, by decide⟩ rfl rfl (Nat.le_of_ble_eq_true rfl) d_L_advance_10 rfl rfl ?_
  refine x_iadd 14 hB d_L_advance_13 rfl ?_
  refine x_top (v' := .int (nI (p + q))) (congrArg Value.int (nI_add _ _)) ?_
  refine x_put 17 hB 0 (ws' := [(h0, .inr (0, [.ref a0, .int (nI (n)), .int (nI (p + q))]))]) fp_L_19_0 rfl (rfl) (rfl) (Nat.le_of_ble_eq_true rfl) rfl d_L_advance_14 rfl ?_
  exact x_vret hB (w' := [(h0, .inr (0, [.ref a0, .int (nI (n)), .int (nI (p + q))]))]) hA [0] rfl rfl (xRet_i) (by decide) (by decide) d_L_advance_17
abbrev rm_L_append : Room := { frames := 0, cells := 0, slots := 0, locals := 0 }
set_option maxHeartbeats 4000000 in
set_option maxRecDepth 100000 in
theorem c_L_append (l : Launch) (E : xE) (h0 a0 n p : Nat) (f : Nat → Int32) (x : Int32) (q : Nat) (hq : n + q ≤ 2640) : xC l E y_L_append (.code y_L_append prog_2_method_10_code 4 none) rm_L_append [.ref h0, .int (x), .int (nI (q))] [(h0, .inr (0, [.ref a0, .int (nI (n)), .int (nI (p))])), (a0, .inl (E.2 0, 2640, .inl (f)))] (xRet none [(h0, .inr (0, [.ref a0, .int (nI (n + q)), .int (nI (p))])), (a0, .inl (E.2 0, 2640, .inl (apF f n x q q)))]) := by
  refine x_of' (own := "LineCoder$Line") (mn := "append") (lv := [(0, .ref h0), (1, .int (x)), (2, .int (nI (q)))]) (plainFor_of_name (by decide)) rfl rfl (Nat.le_of_ble_eq_true rfl) rfl ?_
  intro p_ e_ s_ m_ ar_ be_ me_ c_ A_ hA hB
  refine x_iload_n 1 hB d_L_append_0 rfl rfl ?_
  refine x_iconst (v := nI 1) 2 hB d_L_append_1 rfl (by decide) ?_
  refine x_isub 3 hB d_L_append_2 rfl ?_
  refine x_istore_n 4 hB d_L_append_3 rfl (by decide) (lv' := [(3, .int ((nI (q)) - (nI 1))), (0, .ref h0), (1, .int (x)), (2, .int (nI (q)))]) rfl ?_
  refine x_lv (lv' := [(0, .ref h0), (1, .int (x)), (2, .int (nI (q))), (3, .int ((nI (q)) - (nI 1)))]) [1, 2, 3, 0] rfl ?_
  refine x_loop (fun t : Nat => t ≤ q) (fun t : Nat => q - t) (fun t : Nat => [(h0, .inr (0, [.ref a0, .int (nI (n + t)), .int (nI (p))])), (a0, .inl (E.2 0, 2640, .inl (apF f n x q t)))]) (fun t : Nat => [(0, .ref h0), (1, .int (x)), (2, .int (nI (q))), (3, .int (nI (q - t) - nI 1))]) (fun t : Nat => []) 0 (Nat.zero_le _) rfl rfl rfl (fun t hI4 IH4 => ?_)
  refine x_iload_n 5 hB d_L_append_4 rfl rfl ?_
  refine x_if_lt 49 8 hB d_L_append_5 (by decide) rfl (fun h5 => ?_) (fun h5 => ?_)
  · skip
    have ht : q = t := by have := xneg h5 (by omega); omega
    subst ht
    exact x_vret hB (w' := [(h0, .inr (0, [.ref a0, .int (nI (n + q)), .int (nI (p))])), (a0, .inl (E.2 0, 2640, .inl (apF f n x q q)))]) hA [0, 1] rfl rfl (xRet_i) (by decide) (by decide) d_L_append_49
  · skip
    have ht : t < q := Nat.lt_of_not_le (fun h => h5 (by rw [show q - t = 0 by omega]; decide))
    refine x_aload_n 9 hB d_L_append_8 rfl rfl ?_
    refine x_get 12 hB 0 fg_L_15_0 rfl rfl d_L_append_9 rfl ?_
    refine x_sipush (v := nI 2640) 15 hB d_L_append_12 rfl (by decide) ?_
    refine x_icmp_ge 49 18 hB d_L_append_15 (by decide) rfl (fun hc => absurd hc (nI_ge (by omega) (by decide))) (fun _ => ?_)
    refine x_aload_n 19 hB d_L_append_18 rfl rfl ?_
    refine x_get 22 hB 0 fg_L_11_0 rfl rfl d_L_append_19 rfl ?_
    refine x_aload_n 23 hB d_L_append_22 rfl rfl ?_
    refine x_get 26 hB 0 fg_L_15_0 rfl rfl d_L_append_23 rfl ?_
    refine x_iload_n 27 hB d_L_append_26 rfl rfl ?_
    refine x_iload_n 28 hB d_L_append_27 rfl rfl ?_
    refine x_top (v' := .int (nI (q - t - 1))) (congrArg Value.int (pk_sub (by omega))) ?_
    refine x_iushr (v := (x.toUInt32 >>> ((nI (q - t - 1)).toUInt32 &&& Int32.toUInt32 31)).toInt32) 29 hB d_L_append_28 rfl (rfl) ?_
    refine x_iconst (v := nI 1) 30 hB d_L_append_29 rfl (by decide) ?_
    refine x_iand 31 hB d_L_append_30 rfl ?_
    refine x_top (v' := .int (xbit x (q - t - 1))) (congrArg Value.int (rfl)) ?_
    refine x_i2b (v := xbit x (q - t - 1)) 32 hB d_L_append_31 rfl (byt01 (xbit01 _ _)) ?_
    refine x_bast 33 hB 1 (ws' := [(h0, .inr (0, [.ref a0, .int (nI (n + t)), .int (nI (p))])), (a0, .inl (E.2 0, 2640, .inl (apF f n x q (t + 1))))]) rfl (by omega) (by decide) (x' := xbit x (q - t - 1)) (nar01 (xbit01 _ _)) rfl d_L_append_32 rfl ?_
    refine x_aload_n 34 hB d_L_append_33 rfl rfl ?_
    refine x_dup 35 hB d_L_append_34 rfl rfl ?_
    refine x_get 38 hB 0 fg_L_15_0 rfl rfl d_L_append_35 rfl ?_
    refine x_iconst (v := nI 1) 39 hB d_L_append_38 rfl (by decide) ?_
    refine x_iadd 40 hB d_L_append_39 rfl ?_
    refine x_top (v' := .int (nI (n + (t + 1)))) (congrArg Value.int (nI_add (n + t) 1)) ?_
    refine x_put 43 hB 0 (ws' := [(h0, .inr (0, [.ref a0, .int (nI (n + (t + 1))), .int (nI (p))])), (a0, .inl (E.2 0, 2640, .inl (apF f n x q (t + 1))))]) fp_L_15_0 rfl (rfl) (rfl) (Nat.le_of_ble_eq_true rfl) rfl d_L_append_40 rfl ?_
    refine x_iinc (v := nI (q - (t + 1)) - nI 1) 46 hB d_L_append_43 rfl 3 rfl ((xdec (by omega)).trans (by rw [Nat.sub_sub])) (by decide) (lv' := [(3, .int (nI (q - (t + 1)) - nI 1)), (0, .ref h0), (1, .int (x)), (2, .int (nI (q)))]) rfl ?_
    refine x_goto 4 hB d_L_append_46 (by decide) ?_
    refine x_lv (lv' := [(0, .ref h0), (1, .int (x)), (2, .int (nI (q))), (3, .int (nI (q - (t + 1)) - nI 1))]) [1, 2, 3, 0] rfl ?_
    exact IH4 (t + 1) ht (by omega)
abbrev rm_L_ahead : Room := { frames := 2, cells := 0, slots := 0, locals := 42 }
set_option maxHeartbeats 4000000 in
set_option maxRecDepth 100000 in
theorem c_L_ahead (l : Launch) (E : xE) (h0 a0 n p : Nat) (f : Nat → Int32) (q : Nat) (hq : p + q ≤ n) (hn : n ≤ 2640) (hb : ∀ i, i < n → f i = 0 ∨ f i = 1) : xCp l E y_L_ahead (.code y_L_ahead prog_2_method_12_code 4 (some .int)) rm_L_ahead [.ref h0, .int (nI (q))] [(h0, .inr (0, [.ref a0, .int (nI (n)), .int (nI (p))])), (a0, .inl (E.2 0, 2640, .inl (f)))] (.inl (some (.int (ahF f p q)))) := by
  refine x_ofP (own := "LineCoder$Line") (mn := "ahead") (lv := [(0, .ref h0), (1, .int (nI (q)))]) (plainFor_of_name (by decide)) rfl rfl (Nat.le_of_ble_eq_true rfl) rfl ?_
  intro p_ e_ s_ m_ ar_ be_ me_ c_ hB
  refine x_iconst (v := nI 0) 1 hB d_L_ahead_0 rfl (by decide) ?_
  refine x_istore_n 2 hB d_L_ahead_1 rfl (by decide) (lv' := [(2, .int (nI 0)), (0, .ref h0), (1, .int (nI (q)))]) rfl ?_
  refine x_iconst (v := nI 0) 3 hB d_L_ahead_2 rfl (by decide) ?_
  refine x_istore_n 4 hB d_L_ahead_3 rfl (by decide) (lv' := [(3, .int (nI 0)), (2, .int (nI 0)), (0, .ref h0), (1, .int (nI (q)))]) rfl ?_
  refine x_lv (lv' := [(0, .ref h0), (1, .int (nI (q))), (2, .int (nI 0)), (3, .int (nI 0))]) [2, 3, 1, 0] rfl ?_
  refine x_loop (fun i : Nat => i ≤ q) (fun i : Nat => q - i) (fun i : Nat => [(h0, .inr (0, [.ref a0, .int (nI (n)), .int (nI (p))])), (a0, .inl (E.2 0, 2640, .inl (f)))]) (fun i : Nat => [(0, .ref h0), (1, .int (nI (q))), (2, .int (ahF f p i)), (3, .int (nI (i)))]) (fun i : Nat => []) 0 (Nat.zero_le _) rfl rfl rfl (fun i hI4 IH4 => ?_)
  refine x_iload_n 5 hB d_L_ahead_4 rfl rfl ?_
  refine x_iload_n 6 hB d_L_ahead_5 rfl rfl ?_
  refine x_icmp_ge 39 9 hB d_L_ahead_6 (by decide) rfl (fun h6 => ?_) (fun h6 => ?_)
  · skip
    have hi : q = i := by have := (nI_leI (by omega) (by omega)).mp h6; omega
    subst hi
    refine x_iload_n 40 hB d_L_ahead_39 rfl rfl ?_
    exact x_iretP hB (rfl) (by decide) (by decide) d_L_ahead_40
  · skip
    have hi : i < q := Nat.lt_of_not_le (fun h => h6 (nI_le h (by omega)))
    refine x_iload_n 10 hB d_L_ahead_9 rfl rfl ?_
    refine x_iconst (v := nI 1) 11 hB d_L_ahead_10 rfl (by decide) ?_
    refine x_ishl 12 hB d_L_ahead_11 rfl ?_
    refine x_aload_n 13 hB d_L_ahead_12 rfl rfl ?_
    refine x_aload_n 14 hB d_L_ahead_13 rfl rfl ?_
    refine x_get 17 hB 0 fg_L_19_0 rfl rfl d_L_ahead_14 rfl ?_
    refine x_iload_n 18 hB d_L_ahead_17 rfl rfl ?_
    refine x_iadd 19 hB d_L_ahead_18 rfl ?_
    refine x_top (v' := .int (nI (p + i))) (congrArg Value.int (nI_add _ _)) ?_
    refine x_callP (k' := 0) (n' := 0) (rest := [.int ((ahF f p i) <<< ((nI 1) &&& 31))]) (st' := [.int ((f) (p + i)), .int ((ahF f p i) <<< ((nI 1) &&& 31))]) 22 hB (x_pfV (av := [.int (nI (p + i))]) (q0 := 0) hB w_173 xHd_code w_170 w_171 w_172 rfl rfl nm_L_at rfl d_L_ahead_19) (c_L_at_in l E h0 a0 n p f (p + i) (by omega) hn) w_173 xHd_code w_2 [0, 1] rfl rfl ⟨by decide, by decide⟩ ⟨by decide, by decide⟩ rfl rfl (Nat.le_of_ble_eq_true rfl) d_L_ahead_19 rfl rfl ?_
    refine x_iconst (v := nI 1) 23 hB d_L_ahead_22 rfl (by decide) ?_
    refine x_icmp_ne 30 26 hB d_L_ahead_23 (by decide) rfl (fun h23 => ?_) (fun h23 => ?_)
    · skip
      refine x_iconst (v := nI 0) 31 hB d_L_ahead_30 rfl (by decide) ?_
      refine x_ior 32 hB d_L_ahead_31 rfl ?_
      refine x_top (v' := .int (ahF f p (i + 1))) (congrArg Value.int (by have hz : f (p + i) = 0 := (hb (p + i) (by omega)).resolve_right h23; show _ = (ahF f p i <<< (nI 1 &&& 31)) ||| f (p + i); rw [hz]; rfl)) ?_
      refine x_istore_n 33 hB d_L_ahead_32 rfl (by decide) (lv' := [(2, .int (ahF f p (i + 1))), (0, .ref h0), (1, .int (nI (q))), (3, .int (nI (i)))]) rfl ?_
      refine x_iinc (v := nI (i + 1)) 36 hB d_L_ahead_33 rfl 3 rfl ((nI_succ i).symm) (by decide) (lv' := [(3, .int (nI (i + 1))), (2, .int (ahF f p (i + 1))), (0, .ref h0), (1, .int (nI (q)))]) rfl ?_
      refine x_goto 4 hB d_L_ahead_36 (by decide) ?_
      refine x_lv (lv' := [(0, .ref h0), (1, .int (nI (q))), (2, .int (ahF f p (i + 1))), (3, .int (nI (i + 1)))]) [2, 3, 1, 0] rfl ?_
      exact IH4 (i + 1) hi (by omega)
    · skip
      refine x_iconst (v := nI 1) 27 hB d_L_ahead_26 rfl (by decide) ?_
      refine x_goto 31 hB d_L_ahead_27 (by decide) ?_
      refine x_ior 32 hB d_L_ahead_31 rfl ?_
      refine x_top (v' := .int (ahF f p (i + 1))) (congrArg Value.int (by show _ = (ahF f p i <<< (nI 1 &&& 31)) ||| f (p + i); rw [h23])) ?_
      refine x_istore_n 33 hB d_L_ahead_32 rfl (by decide) (lv' := [(2, .int (ahF f p (i + 1))), (0, .ref h0), (1, .int (nI (q))), (3, .int (nI (i)))]) rfl ?_
      refine x_iinc (v := nI (i + 1)) 36 hB d_L_ahead_33 rfl 3 rfl ((nI_succ i).symm) (by decide) (lv' := [(3, .int (nI (i + 1))), (2, .int (ahF f p (i + 1))), (0, .ref h0), (1, .int (nI (q)))]) rfl ?_
      refine x_goto 4 hB d_L_ahead_36 (by decide) ?_
      refine x_lv (lv' := [(0, .ref h0), (1, .int (nI (q))), (2, .int (ahF f p (i + 1))), (3, .int (nI (i + 1)))]) [2, 3, 1, 0] rfl ?_
      exact IH4 (i + 1) hi (by omega)
abbrev rm_L_olz : Room := { frames := 0, cells := 0, slots := 0, locals := 0 }
set_option maxHeartbeats 4000000 in
set_option maxRecDepth 100000 in
theorem c_L_olz (l : Launch) (E : xE) (h0 a0 n p : Nat) (f : Nat → Int32) (hn : n ≤ 2640) : xCp l E y_L_onesLessZeros (.code y_L_onesLessZeros prog_2_method_14_code 3 (some .int)) rm_L_olz [.ref h0] [(h0, .inr (0, [.ref a0, .int (nI (n)), .int (nI (p))])), (a0, .inl (E.2 0, 2640, .inl (f)))] (.inl (some (.int (olF f n)))) := by
  refine x_ofP (own := "LineCoder$Line") (mn := "onesLessZeros") (lv := [(0, .ref h0)]) (plainFor_of_name (by decide)) rfl rfl (Nat.le_of_ble_eq_true rfl) rfl ?_
  intro p_ e_ s_ m_ ar_ be_ me_ c_ hB
  refine x_iconst (v := nI 0) 1 hB d_L_onesLessZeros_0 rfl (by decide) ?_
  refine x_istore_n 2 hB d_L_onesLessZeros_1 rfl (by decide) (lv' := [(1, .int (nI 0)), (0, .ref h0)]) rfl ?_
  refine x_iconst (v := nI 0) 3 hB d_L_onesLessZeros_2 rfl (by decide) ?_
  refine x_istore_n 4 hB d_L_onesLessZeros_3 rfl (by decide) (lv' := [(2, .int (nI 0)), (1, .int (nI 0)), (0, .ref h0)]) rfl ?_
  refine x_lv (lv' := [(0, .ref h0), (1, .int (nI 0)), (2, .int (nI 0))]) [2, 1, 0] rfl ?_
  refine x_loop (fun i : Nat => i ≤ n) (fun i : Nat => n - i) (fun i : Nat => [(h0, .inr (0, [.ref a0, .int (nI (n)), .int (nI (p))])), (a0, .inl (E.2 0, 2640, .inl (f)))]) (fun i : Nat => [(0, .ref h0), (1, .int (olF f i)), (2, .int (nI (i)))]) (fun i : Nat => []) 0 (Nat.zero_le _) rfl rfl rfl (fun i hI4 IH4 => ?_)
  refine x_iload_n 5 hB d_L_onesLessZeros_4 rfl rfl ?_
  refine x_aload_n 6 hB d_L_onesLessZeros_5 rfl rfl ?_
  refine x_get 9 hB 0 fg_L_15_0 rfl rfl d_L_onesLessZeros_6 rfl ?_
  refine x_icmp_ge 36 12 hB d_L_onesLessZeros_9 (by decide) rfl (fun h9 => ?_) (fun h9 => ?_)
  · skip
    have hi : n = i := by have := (nI_leI (by omega) (by omega)).mp h9; omega
    subst hi
    refine x_iload_n 37 hB d_L_onesLessZeros_36 rfl rfl ?_
    exact x_iretP hB (rfl) (by decide) (by decide) d_L_onesLessZeros_37
  · skip
    have hi : i < n := Nat.lt_of_not_le (fun h => h9 (nI_le h (by omega)))
    refine x_iload_n 13 hB d_L_onesLessZeros_12 rfl rfl ?_
    refine x_aload_n 14 hB d_L_onesLessZeros_13 rfl rfl ?_
    refine x_get 17 hB 0 fg_L_11_0 rfl rfl d_L_onesLessZeros_14 rfl ?_
    refine x_iload_n 18 hB d_L_onesLessZeros_17 rfl rfl ?_
    refine x_bald 19 hB 1 rfl (by omega) (by decide) d_L_onesLessZeros_18 rfl ?_
    refine x_iconst (v := nI 1) 20 hB d_L_onesLessZeros_19 rfl (by decide) ?_
    refine x_icmp_ne 27 23 hB d_L_onesLessZeros_20 (by decide) rfl (fun h20 => ?_) (fun h20 => ?_)
    · skip
      refine x_iconst (v := (-1 : Int32)) 28 hB d_L_onesLessZeros_27 rfl (by decide) ?_
      refine x_iadd 29 hB d_L_onesLessZeros_28 rfl ?_
      refine x_top (v' := .int (olF f (i + 1))) (congrArg Value.int (by show _ = olF f i + _; rw [if_neg h20])) ?_
      refine x_istore_n 30 hB d_L_onesLessZeros_29 rfl (by decide) (lv' := [(1, .int (olF f (i + 1))), (0, .ref h0), (2, .int (nI (i)))]) rfl ?_
      refine x_iinc (v := nI (i + 1)) 33 hB d_L_onesLessZeros_30 rfl 2 rfl ((nI_succ i).symm) (by decide) (lv' := [(2, .int (nI (i + 1))), (1, .int (olF f (i + 1))), (0, .ref h0)]) rfl ?_
      refine x_goto 4 hB d_L_onesLessZeros_33 (by decide) ?_
      refine x_lv (lv' := [(0, .ref h0), (1, .int (olF f (i + 1))), (2, .int (nI (i + 1)))]) [2, 1, 0] rfl ?_
      exact IH4 (i + 1) hi (by omega)
    · skip
      refine x_iconst (v := nI 1) 24 hB d_L_onesLessZeros_23 rfl (by decide) ?_
      refine x_goto 28 hB d_L_onesLessZeros_24 (by decide) ?_
      refine x_iadd 29 hB d_L_onesLessZeros_28 rfl ?_
      refine x_top (v' := .int (olF f (i + 1))) (congrArg Value.int (by show _ = olF f i + _; rw [if_pos h20])) ?_
      refine x_istore_n 30 hB d_L_onesLessZeros_29 rfl (by decide) (lv' := [(1, .int (olF f (i + 1))), (0, .ref h0), (2, .int (nI (i)))]) rfl ?_
      refine x_iinc (v := nI (i + 1)) 33 hB d_L_onesLessZeros_30 rfl 2 rfl ((nI_succ i).symm) (by decide) (lv' := [(2, .int (nI (i + 1))), (1, .int (olF f (i + 1))), (0, .ref h0)]) rfl ?_
      refine x_goto 4 hB d_L_onesLessZeros_33 (by decide) ?_
      refine x_lv (lv' := [(0, .ref h0), (1, .int (olF f (i + 1))), (2, .int (nI (i + 1)))]) [2, 1, 0] rfl ?_
      exact IH4 (i + 1) hi (by omega)
abbrev rm_L_init : Room := { frames := 1, cells := 1, slots := 2640, locals := 20 }
set_option maxHeartbeats 4000000 in
set_option maxRecDepth 100000 in
theorem c_L_init (l : Launch) (E : xE) (h0 : Nat) : xC l E y_L_init (.code y_L_init prog_2_method_1_code 1 none) rm_L_init [.ref h0] [(h0, .inr (0, [.null, .int 0, .int 0]))] (xEx (fun a0 : Nat => [(h0, .inr (0, [.ref a0, .int (nI (0)), .int (nI (0))])), (a0, .inl (E.2 0, 2640, .inl (fun _ => 0)))])) := by
  refine x_of' (own := "LineCoder$Line") (mn := "<init>") (lv := [(0, .ref h0)]) (plainFor_of_name (by decide)) rfl rfl (Nat.le_of_ble_eq_true rfl) rfl ?_
  intro p_ e_ s_ m_ ar_ be_ me_ c_ A_ hA hB
  refine x_aload_n 1 hB d_L_init_0 rfl rfl ?_
  refine x_objInit 4 hB w_31 w_24 w_25 d_L_init_1 rfl (by decide) (Nat.le_of_ble_eq_true rfl) ?_
  refine x_aload_n 5 hB d_L_init_4 rfl rfl ?_
  refine x_sipush (v := nI 2640) 8 hB d_L_init_5 rfl (by decide) ?_
  refine x_newB (k' := 1) (n' := 2640) 10 hB w_42 (by decide) (by decide) (by decide) rfl rfl d_L_init_8 rfl (fun q8 => ?_)
  refine x_ws (ws' := [(h0, .inr (0, [.null, .int 0, .int 0])), (q8, .inl (E.2 0, 2640, .inl (fun _ => 0)))]) rfl ?_
  refine x_putF 13 hB 0 (ws' := [(h0, .inr (0, [.ref q8, .int 0, .int 0])), (q8, .inl (E.2 0, 2640, .inl (fun _ => 0)))]) fp_L_11_0 rfl (rfl) (rfl) (Nat.le_of_ble_eq_true rfl) rfl d_L_init_10 rfl ?_
  refine x_aload_n 14 hB d_L_init_13 rfl rfl ?_
  refine x_iconst (v := nI 0) 15 hB d_L_init_14 rfl (by decide) ?_
  refine x_put 18 hB 0 (ws' := [(h0, .inr (0, [.ref q8, .int (nI 0), .int 0])), (q8, .inl (E.2 0, 2640, .inl (fun _ => 0)))]) fp_L_15_0 rfl (rfl) (rfl) (Nat.le_of_ble_eq_true rfl) rfl d_L_init_15 rfl ?_
  refine x_aload_n 19 hB d_L_init_18 rfl rfl ?_
  refine x_iconst (v := nI 0) 20 hB d_L_init_19 rfl (by decide) ?_
  refine x_put 23 hB 0 (ws' := [(h0, .inr (0, [.ref q8, .int (nI 0), .int (nI 0)])), (q8, .inl (E.2 0, 2640, .inl (fun _ => 0)))]) fp_L_19_0 rfl (rfl) (rfl) (Nat.le_of_ble_eq_true rfl) rfl d_L_init_20 rfl ?_
  exact x_vret hB (w' := [(h0, .inr (0, [.ref q8, .int (nI 0), .int (nI 0)])), (q8, .inl (E.2 0, 2640, .inl (fun _ => 0)))]) hA [0, 1] rfl rfl (⟨rfl, q8, rfl⟩) (by decide) (by decide) d_L_init_23
end
section
abbrev rm_S_turning : Room := { frames := 0, cells := 0, slots := 0, locals := 0 }
set_option maxHeartbeats 4000000 in
set_option maxRecDepth 100000 in
theorem c_S_turning (l : Launch) (E : xE) (hs : Nat) (w : Int64) : xCp l E y_S_turning (.code y_S_turning prog_4_method_5_code 1 (some .int)) rm_S_turning [.ref hs] [(hs, .inr (1, [.long (w)]))] (.inl (some (.int (turF w)))) := by
  refine x_ofP (own := "LineCoder$Stirrer") (mn := "turning") (lv := [(0, .ref hs)]) (plainFor_of_name (by decide)) rfl rfl (Nat.le_of_ble_eq_true rfl) rfl ?_
  intro p_ e_ s_ m_ ar_ be_ me_ c_ hB
  refine x_aload_n 1 hB d_S_turning_0 rfl rfl ?_
  refine x_get 4 hB 0 fg_S_11_1 rfl rfl d_S_turning_1 rfl ?_
  refine x_bipush (v := nI 38) 6 hB d_S_turning_4 rfl (by decide) ?_
  refine x_lushr (v := (w.toUInt64 >>> ((nI 38).toInt64.toUInt64 &&& Int64.toUInt64 63)).toInt64) 7 hB d_S_turning_6 rfl (rfl) ?_
  refine x_aload_n 8 hB d_S_turning_7 rfl rfl ?_
  refine x_get 11 hB 0 fg_S_11_1 rfl rfl d_S_turning_8 rfl ?_
  refine x_bipush (v := nI 57) 13 hB d_S_turning_11 rfl (by decide) ?_
  refine x_lushr (v := (w.toUInt64 >>> ((nI 57).toInt64.toUInt64 &&& Int64.toUInt64 63)).toInt64) 14 hB d_S_turning_13 rfl (rfl) ?_
  refine x_lxor 15 hB d_S_turning_14 rfl ?_
  refine x_l2i (v := (((w.toUInt64 >>> ((nI 38).toInt64.toUInt64 &&& Int64.toUInt64 63)).toInt64) ^^^ ((w.toUInt64 >>> ((nI 57).toInt64.toUInt64 &&& Int64.toUInt64 63)).toInt64)).toInt32) 16 hB d_S_turning_15 rfl (rfl) ?_
  refine x_iconst (v := nI 1) 17 hB d_S_turning_16 rfl (by decide) ?_
  refine x_iand 18 hB d_S_turning_17 rfl ?_
  refine x_top (v' := .int (turF w)) (congrArg Value.int (rfl)) ?_
  exact x_iretP hB (rfl) (by decide) (by decide) d_S_turning_18
abbrev rm_S_remember : Room := { frames := 0, cells := 0, slots := 0, locals := 0 }
set_option maxHeartbeats 4000000 in
set_option maxRecDepth 100000 in
theorem c_S_remember (l : Launch) (E : xE) (hs : Nat) (w : Int64) (b : Int32) : xC l E y_S_remember (.code y_S_remember prog_4_method_6_code 2 none) rm_S_remember [.ref hs, .int (b)] [(hs, .inr (1, [.long (w)]))] (xRet none [(hs, .inr (1, [.long (remF w b)]))]) := by
  refine x_of' (own := "LineCoder$Stirrer") (mn := "remember") (lv := [(0, .ref hs), (1, .int (b))]) (plainFor_of_name (by decide)) rfl rfl (Nat.le_of_ble_eq_true rfl) rfl ?_
  intro p_ e_ s_ m_ ar_ be_ me_ c_ A_ hA hB
  refine x_aload_n 1 hB d_S_remember_0 rfl rfl ?_
  refine x_aload_n 2 hB d_S_remember_1 rfl rfl ?_
  refine x_get 5 hB 0 fg_S_11_1 rfl rfl d_S_remember_2 rfl ?_
  refine x_iconst (v := nI 1) 6 hB d_S_remember_5 rfl (by decide) ?_
  refine x_lshl (v := w <<< ((nI 1).toInt64 &&& 63)) 7 hB d_S_remember_6 rfl (rfl) ?_
  refine x_iload_n 8 hB d_S_remember_7 rfl rfl ?_
  refine x_i2l (v := (b).toInt64) 9 hB d_S_remember_8 rfl (rfl) ?_
  refine x_lor 10 hB d_S_remember_9 rfl ?_
  refine x_top (v' := .long (remF w b)) (congrArg Value.long (rfl)) ?_
  refine x_put 13 hB 0 (ws' := [(hs, .inr (1, [.long (remF w b)]))]) fp_S_11_1 rfl (rfl) (rfl) (Nat.le_of_ble_eq_true rfl) rfl d_S_remember_10 rfl ?_
  exact x_vret hB (w' := [(hs, .inr (1, [.long (remF w b)]))]) hA [0] rfl rfl (xRet_i) (by decide) (by decide) d_S_remember_13
abbrev rm_S_stir : Room := { frames := 1, cells := 0, slots := 0, locals := 21 }
set_option maxHeartbeats 4000000 in
set_option maxRecDepth 100000 in
theorem c_S_stir (l : Launch) (E : xE) (hs : Nat) (w : Int64) (b : Int32) : xC l E y_S_stir (.code y_S_stir prog_4_method_3_code 3 (some .int)) rm_S_stir [.ref hs, .int (b)] [(hs, .inr (1, [.long (w)]))] (xRet (some (.int (b ^^^ turF w))) [(hs, .inr (1, [.long (remF w (b ^^^ turF w))]))]) := by
  refine x_of' (own := "LineCoder$Stirrer") (mn := "stir") (lv := [(0, .ref hs), (1, .int (b))]) (plainFor_of_name (by decide)) rfl rfl (Nat.le_of_ble_eq_true rfl) rfl ?_
  intro p_ e_ s_ m_ ar_ be_ me_ c_ A_ hA hB
  refine x_iload_n 1 hB d_S_stir_0 rfl rfl ?_
  refine x_aload_n 2 hB d_S_stir_1 rfl rfl ?_
  refine x_callP (k' := 0) (n' := 0) (rest := [.int (b)]) (st' := [.int (turF w), .int (b)]) 5 hB (x_pfV (av := []) (q0 := 0) hB w_279 xHd_code w_276 w_278 s_S_turning rfl rfl nm_S_turning rfl d_S_stir_2) (c_S_turning l E hs w) w_279 xHd_code w_6 [0] rfl rfl ⟨by decide, by decide⟩ ⟨by decide, by decide⟩ rfl rfl (Nat.le_of_ble_eq_true rfl) d_S_stir_2 rfl rfl ?_
  refine x_ixor 6 hB d_S_stir_5 rfl ?_
  refine x_top (v' := .int (b ^^^ turF w)) (congrArg Value.int (rfl)) ?_
  refine x_istore_n 7 hB d_S_stir_6 rfl (by decide) (lv' := [(2, .int (b ^^^ turF w)), (0, .ref hs), (1, .int (b))]) rfl ?_
  refine x_aload_n 8 hB d_S_stir_7 rfl rfl ?_
  refine x_iload_n 9 hB d_S_stir_8 rfl rfl ?_
  refine x_callD (k' := 0) (n' := 0) (rest := []) (wr := []) (ws' := [(hs, .inr (1, [.long (remF w (b ^^^ turF w))]))]) (st' := []) 12 hB (x_pfV (av := [.int (b ^^^ turF w)]) (q0 := 0) hB w_283 xHd_code w_280 w_282 s_S_remember rfl rfl nm_S_remember rfl d_S_stir_9) (c_S_remember l E hs w (b ^^^ turF w)) w_283 xHd_code w_6 [0] [] rfl rfl rfl rfl (by decide) ⟨by decide, by decide⟩ ⟨by decide, by decide⟩ rfl rfl (Nat.le_of_ble_eq_true rfl) d_S_stir_9 rfl rfl rfl ?_
  refine x_iload_n 13 hB d_S_stir_12 rfl rfl ?_
  exact x_iret hB (w' := [(hs, .inr (1, [.long (remF w (b ^^^ turF w))]))]) hA [0] rfl rfl (xRet_i) (by decide) (by decide) d_S_stir_13
abbrev rm_S_stirBack : Room := { frames := 1, cells := 0, slots := 0, locals := 21 }
set_option maxHeartbeats 4000000 in
set_option maxRecDepth 100000 in
theorem c_S_stirBack (l : Launch) (E : xE) (hs : Nat) (w : Int64) (b : Int32) : xC l E y_S_stirBack (.code y_S_stirBack prog_4_method_4_code 3 (some .int)) rm_S_stirBack [.ref hs, .int (b)] [(hs, .inr (1, [.long (w)]))] (xRet (some (.int (b ^^^ turF w))) [(hs, .inr (1, [.long (remF w b)]))]) := by
  refine x_of' (own := "LineCoder$Stirrer") (mn := "stirBack") (lv := [(0, .ref hs), (1, .int (b))]) (plainFor_of_name (by decide)) rfl rfl (Nat.le_of_ble_eq_true rfl) rfl ?_
  intro p_ e_ s_ m_ ar_ be_ me_ c_ A_ hA hB
  refine x_iload_n 1 hB d_S_stirBack_0 rfl rfl ?_
  refine x_aload_n 2 hB d_S_stirBack_1 rfl rfl ?_
  refine x_callP (k' := 0) (n' := 0) (rest := [.int (b)]) (st' := [.int (turF w), .int (b)]) 5 hB (x_pfV (av := []) (q0 := 0) hB w_279 xHd_code w_276 w_278 s_S_turning rfl rfl nm_S_turning rfl d_S_stirBack_2) (c_S_turning l E hs w) w_279 xHd_code w_6 [0] rfl rfl ⟨by decide, by decide⟩ ⟨by decide, by decide⟩ rfl rfl (Nat.le_of_ble_eq_true rfl) d_S_stirBack_2 rfl rfl ?_
  refine x_ixor 6 hB d_S_stirBack_5 rfl ?_
  refine x_top (v' := .int (b ^^^ turF w)) (congrArg Value.int (rfl)) ?_
  refine x_istore_n 7 hB d_S_stirBack_6 rfl (by decide) (lv' := [(2, .int (b ^^^ turF w)), (0, .ref hs), (1, .int (b))]) rfl ?_
  refine x_aload_n 8 hB d_S_stirBack_7 rfl rfl ?_
  refine x_iload_n 9 hB d_S_stirBack_8 rfl rfl ?_
  refine x_callD (k' := 0) (n' := 0) (rest := []) (wr := []) (ws' := [(hs, .inr (1, [.long (remF w b)]))]) (st' := []) 12 hB (x_pfV (av := [.int (b)]) (q0 := 0) hB w_283 xHd_code w_280 w_282 s_S_remember rfl rfl nm_S_remember rfl d_S_stirBack_9) (c_S_remember l E hs w b) w_283 xHd_code w_6 [0] [] rfl rfl rfl rfl (by decide) ⟨by decide, by decide⟩ ⟨by decide, by decide⟩ rfl rfl (Nat.le_of_ble_eq_true rfl) d_S_stirBack_9 rfl rfl rfl ?_
  refine x_iload_n 13 hB d_S_stirBack_12 rfl rfl ?_
  exact x_iret hB (w' := [(hs, .inr (1, [.long (remF w b)]))]) hA [0] rfl rfl (xRet_i) (by decide) (by decide) d_S_stirBack_13
abbrev rm_S_forget : Room := { frames := 0, cells := 0, slots := 0, locals := 0 }
set_option maxHeartbeats 4000000 in
set_option maxRecDepth 100000 in
theorem c_S_forget (l : Launch) (E : xE) (hs : Nat) (w : Int64) : xC l E y_S_forget (.code y_S_forget prog_4_method_2_code 1 none) rm_S_forget [.ref hs] [(hs, .inr (1, [.long (w)]))] (xRet none [(hs, .inr (1, [.long (-1)]))]) := by
  refine x_of' (own := "LineCoder$Stirrer") (mn := "forget") (lv := [(0, .ref hs)]) (plainFor_of_name (by decide)) rfl rfl (Nat.le_of_ble_eq_true rfl) rfl ?_
  intro p_ e_ s_ m_ ar_ be_ me_ c_ A_ hA hB
  refine x_aload_n 1 hB d_S_forget_0 rfl rfl ?_
  refine x_ldc2 4 hB d_S_forget_1 rfl w_106 ?_
  refine x_put 7 hB 0 (ws' := [(hs, .inr (1, [.long (-1)]))]) fp_S_11_1 rfl (rfl) (rfl) (Nat.le_of_ble_eq_true rfl) rfl d_S_forget_4 rfl ?_
  exact x_vret hB (w' := [(hs, .inr (1, [.long (-1)]))]) hA [0] rfl rfl (xRet_i) (by decide) (by decide) d_S_forget_7
abbrev rm_S_init : Room := { frames := 1, cells := 0, slots := 0, locals := 20 }
set_option maxHeartbeats 4000000 in
set_option maxRecDepth 100000 in
theorem c_S_init (l : Launch) (E : xE) (hs : Nat) : xC l E y_S_init (.code y_S_init prog_4_method_1_code 1 none) rm_S_init [.ref hs] [(hs, .inr (1, [.long 0]))] (xRet none [(hs, .inr (1, [.long (-1)]))]) := by
  refine x_of' (own := "LineCoder$Stirrer") (mn := "<init>") (lv := [(0, .ref hs)]) (plainFor_of_name (by decide)) rfl rfl (Nat.le_of_ble_eq_true rfl) rfl ?_
  intro p_ e_ s_ m_ ar_ be_ me_ c_ A_ hA hB
  refine x_aload_n 1 hB d_S_init_0 rfl rfl ?_
  refine x_objInit 4 hB w_105 w_24 w_25 d_S_init_1 rfl (by decide) (Nat.le_of_ble_eq_true rfl) ?_
  refine x_aload_n 5 hB d_S_init_4 rfl rfl ?_
  refine x_ldc2 8 hB d_S_init_5 rfl w_106 ?_
  refine x_put 11 hB 0 (ws' := [(hs, .inr (1, [.long (-1)]))]) fp_S_11_1 rfl (rfl) (rfl) (Nat.le_of_ble_eq_true rfl) rfl d_S_init_8 rfl ?_
  exact x_vret hB (w' := [(hs, .inr (1, [.long (-1)]))]) hA [0] rfl rfl (xRet_i) (by decide) (by decide) d_S_init_11
abbrev rm_R_init_T : Room := { frames := 1, cells := 0, slots := 0, locals := 20 }
set_option maxHeartbeats 4000000 in
set_option maxRecDepth 100000 in
theorem c_R_init_T (l : Launch) (E : xE) (hr h0 : Nat) : xC l E y_R_init (.code y_R_init prog_3_method_1_code 2 none) rm_R_init_T [.ref hr, .ref h0] [(hr, .inr (2, [.null, .int 0, .int 0, .int 0, .int 0, .int 0, .int 0, .int 0, .int 0]))] (xRet none [(hr, .inr (2, [.ref h0, .int (nI 0), .int (nI 0), .int (nI 0), .int (nI 0), .int 0, .int 0, .int 0, .int 0]))]) := by
  refine x_of' (own := "LineCoder$Receiver") (mn := "<init>") (lv := [(0, .ref hr), (1, .ref h0)]) (plainFor_of_name (by decide)) rfl rfl (Nat.le_of_ble_eq_true rfl) rfl ?_
  intro p_ e_ s_ m_ ar_ be_ me_ c_ A_ hA hB
  refine x_aload_n 1 hB d_R_init_0 rfl rfl ?_
  refine x_objInit 4 hB w_51 w_24 w_25 d_R_init_1 rfl (by decide) (Nat.le_of_ble_eq_true rfl) ?_
  refine x_aload_n 5 hB d_R_init_4 rfl rfl ?_
  refine x_aload_n 6 hB d_R_init_5 rfl rfl ?_
  refine x_putF 9 hB 0 (ws' := [(hr, .inr (2, [.ref h0, .int 0, .int 0, .int 0, .int 0, .int 0, .int 0, .int 0, .int 0]))]) fp_R_9_2 rfl (rfl) (rfl) (Nat.le_of_ble_eq_true rfl) rfl d_R_init_6 rfl ?_
  refine x_aload_n 10 hB d_R_init_9 rfl rfl ?_
  refine x_iconst (v := nI 0) 11 hB d_R_init_10 rfl (by decide) ?_
  refine x_put 14 hB 0 (ws' := [(hr, .inr (2, [.ref h0, .int (nI 0), .int 0, .int 0, .int 0, .int 0, .int 0, .int 0, .int 0]))]) fp_R_15_2 rfl (rfl) (rfl) (Nat.le_of_ble_eq_true rfl) rfl d_R_init_11 rfl ?_
  refine x_aload_n 15 hB d_R_init_14 rfl rfl ?_
  refine x_iconst (v := nI 0) 16 hB d_R_init_15 rfl (by decide) ?_
  refine x_put 19 hB 0 (ws' := [(hr, .inr (2, [.ref h0, .int (nI 0), .int (nI 0), .int 0, .int 0, .int 0, .int 0, .int 0, .int 0]))]) fp_R_19_2 rfl (rfl) (rfl) (Nat.le_of_ble_eq_true rfl) rfl d_R_init_16 rfl ?_
  refine x_aload_n 20 hB d_R_init_19 rfl rfl ?_
  refine x_iconst (v := nI 0) 21 hB d_R_init_20 rfl (by decide) ?_
  refine x_put 24 hB 0 (ws' := [(hr, .inr (2, [.ref h0, .int (nI 0), .int (nI 0), .int (nI 0), .int 0, .int 0, .int 0, .int 0, .int 0]))]) fp_R_23_2 rfl (rfl) (rfl) (Nat.le_of_ble_eq_true rfl) rfl d_R_init_21 rfl ?_
  refine x_aload_n 25 hB d_R_init_24 rfl rfl ?_
  refine x_iconst (v := nI 0) 26 hB d_R_init_25 rfl (by decide) ?_
  refine x_put 29 hB 0 (ws' := [(hr, .inr (2, [.ref h0, .int (nI 0), .int (nI 0), .int (nI 0), .int (nI 0), .int 0, .int 0, .int 0, .int 0]))]) fp_R_26_2 rfl (rfl) (rfl) (Nat.le_of_ble_eq_true rfl) rfl d_R_init_26 rfl ?_
  exact x_vret hB (w' := [(hr, .inr (2, [.ref h0, .int (nI 0), .int (nI 0), .int (nI 0), .int (nI 0), .int 0, .int 0, .int 0, .int 0]))]) hA [0] rfl rfl (xRet_i) (by decide) (by decide) d_R_init_29
abbrev rm_R_isFollowing_T : Room := { frames := 0, cells := 0, slots := 0, locals := 0 }
set_option maxHeartbeats 4000000 in
set_option maxRecDepth 100000 in
theorem c_R_isFollowing_T (l : Launch) (E : xE) (hr h0 : Nat) (fo plus first : Bool) (sl bd wr mk rw : Nat) : xCp l E y_R_isFollowing (.code y_R_isFollowing prog_3_method_3_code 1 (some .boolean)) rm_R_isFollowing_T [.ref hr] [(hr, .inr (2, [.ref h0, .int (bI fo), .int (nI (sl)), .int (nI (bd)), .int (nI (wr)), .int (bI plus), .int (bI first), .int (nI (mk)), .int (nI (rw))]))] (.inl (some (.int (bI fo)))) := by
  refine x_ofP (own := "LineCoder$Receiver") (mn := "isFollowing") (lv := [(0, .ref hr)]) (plainFor_of_name (by decide)) rfl rfl (Nat.le_of_ble_eq_true rfl) rfl ?_
  intro p_ e_ s_ m_ ar_ be_ me_ c_ hB
  refine x_aload_n 1 hB d_R_isFollowing_0 rfl rfl ?_
  refine x_get 4 hB 0 fg_R_15_2 rfl rfl d_R_isFollowing_1 rfl ?_
  exact x_zretP hB (by cases fo <;> rfl) (rfl) (by decide) (by decide) d_R_isFollowing_4
abbrev rm_R_slips_T : Room := { frames := 0, cells := 0, slots := 0, locals := 0 }
set_option maxHeartbeats 4000000 in
set_option maxRecDepth 100000 in
theorem c_R_slips_T (l : Launch) (E : xE) (hr h0 : Nat) (fo plus first : Bool) (sl bd wr mk rw : Nat) : xCp l E y_R_slips (.code y_R_slips prog_3_method_4_code 1 (some .int)) rm_R_slips_T [.ref hr] [(hr, .inr (2, [.ref h0, .int (bI fo), .int (nI (sl)), .int (nI (bd)), .int (nI (wr)), .int (bI plus), .int (bI first), .int (nI (mk)), .int (nI (rw))]))] (.inl (some (.int (nI (sl))))) := by
  refine x_ofP (own := "LineCoder$Receiver") (mn := "slips") (lv := [(0, .ref hr)]) (plainFor_of_name (by decide)) rfl rfl (Nat.le_of_ble_eq_true rfl) rfl ?_
  intro p_ e_ s_ m_ ar_ be_ me_ c_ hB
  refine x_aload_n 1 hB d_R_slips_0 rfl rfl ?_
  refine x_get 4 hB 0 fg_R_19_2 rfl rfl d_R_slips_1 rfl ?_
  exact x_iretP hB (rfl) (by decide) (by decide) d_R_slips_4
abbrev rm_R_bads_T : Room := { frames := 0, cells := 0, slots := 0, locals := 0 }
set_option maxHeartbeats 4000000 in
set_option maxRecDepth 100000 in
theorem c_R_bads_T (l : Launch) (E : xE) (hr h0 : Nat) (fo plus first : Bool) (sl bd wr mk rw : Nat) : xCp l E y_R_bads (.code y_R_bads prog_3_method_5_code 1 (some .int)) rm_R_bads_T [.ref hr] [(hr, .inr (2, [.ref h0, .int (bI fo), .int (nI (sl)), .int (nI (bd)), .int (nI (wr)), .int (bI plus), .int (bI first), .int (nI (mk)), .int (nI (rw))]))] (.inl (some (.int (nI (bd))))) := by
  refine x_ofP (own := "LineCoder$Receiver") (mn := "bads") (lv := [(0, .ref hr)]) (plainFor_of_name (by decide)) rfl rfl (Nat.le_of_ble_eq_true rfl) rfl ?_
  intro p_ e_ s_ m_ ar_ be_ me_ c_ hB
  refine x_aload_n 1 hB d_R_bads_0 rfl rfl ?_
  refine x_get 4 hB 0 fg_R_23_2 rfl rfl d_R_bads_1 rfl ?_
  exact x_iretP hB (rfl) (by decide) (by decide) d_R_bads_4
abbrev rm_R_wrongs_T : Room := { frames := 0, cells := 0, slots := 0, locals := 0 }
set_option maxHeartbeats 4000000 in
set_option maxRecDepth 100000 in
theorem c_R_wrongs_T (l : Launch) (E : xE) (hr h0 : Nat) (fo plus first : Bool) (sl bd wr mk rw : Nat) : xCp l E y_R_wrongs (.code y_R_wrongs prog_3_method_6_code 1 (some .int)) rm_R_wrongs_T [.ref hr] [(hr, .inr (2, [.ref h0, .int (bI fo), .int (nI (sl)), .int (nI (bd)), .int (nI (wr)), .int (bI plus), .int (bI first), .int (nI (mk)), .int (nI (rw))]))] (.inl (some (.int (nI (wr))))) := by
  refine x_ofP (own := "LineCoder$Receiver") (mn := "wrongs") (lv := [(0, .ref hr)]) (plainFor_of_name (by decide)) rfl rfl (Nat.le_of_ble_eq_true rfl) rfl ?_
  intro p_ e_ s_ m_ ar_ be_ me_ c_ hB
  refine x_aload_n 1 hB d_R_wrongs_0 rfl rfl ?_
  refine x_get 4 hB 0 fg_R_26_2 rfl rfl d_R_wrongs_1 rfl ?_
  exact x_iretP hB (rfl) (by decide) (by decide) d_R_wrongs_4
abbrev rm_R_countAnew_T : Room := { frames := 0, cells := 0, slots := 0, locals := 0 }
set_option maxHeartbeats 4000000 in
set_option maxRecDepth 100000 in
theorem c_R_countAnew_T (l : Launch) (E : xE) (hr h0 : Nat) (fo plus first : Bool) (sl bd wr mk rw : Nat) : xC l E y_R_countAnew (.code y_R_countAnew prog_3_method_7_code 1 none) rm_R_countAnew_T [.ref hr] [(hr, .inr (2, [.ref h0, .int (bI fo), .int (nI (sl)), .int (nI (bd)), .int (nI (wr)), .int (bI plus), .int (bI first), .int (nI (mk)), .int (nI (rw))]))] (xRet none [(hr, .inr (2, [.ref h0, .int (nI 0), .int (nI 0), .int (nI 0), .int (nI 0), .int (bI plus), .int (bI first), .int (nI (mk)), .int (nI (rw))]))]) := by
  refine x_of' (own := "LineCoder$Receiver") (mn := "countAnew") (lv := [(0, .ref hr)]) (plainFor_of_name (by decide)) rfl rfl (Nat.le_of_ble_eq_true rfl) rfl ?_
  intro p_ e_ s_ m_ ar_ be_ me_ c_ A_ hA hB
  refine x_aload_n 1 hB d_R_countAnew_0 rfl rfl ?_
  refine x_iconst (v := nI 0) 2 hB d_R_countAnew_1 rfl (by decide) ?_
  refine x_put 5 hB 0 (ws' := [(hr, .inr (2, [.ref h0, .int (nI 0), .int (nI (sl)), .int (nI (bd)), .int (nI (wr)), .int (bI plus), .int (bI first), .int (nI (mk)), .int (nI (rw))]))]) fp_R_15_2 rfl (rfl) (rfl) (Nat.le_of_ble_eq_true rfl) rfl d_R_countAnew_2 rfl ?_
  refine x_aload_n 6 hB d_R_countAnew_5 rfl rfl ?_
  refine x_iconst (v := nI 0) 7 hB d_R_countAnew_6 rfl (by decide) ?_
  refine x_put 10 hB 0 (ws' := [(hr, .inr (2, [.ref h0, .int (nI 0), .int (nI 0), .int (nI (bd)), .int (nI (wr)), .int (bI plus), .int (bI first), .int (nI (mk)), .int (nI (rw))]))]) fp_R_19_2 rfl (rfl) (rfl) (Nat.le_of_ble_eq_true rfl) rfl d_R_countAnew_7 rfl ?_
  refine x_aload_n 11 hB d_R_countAnew_10 rfl rfl ?_
  refine x_iconst (v := nI 0) 12 hB d_R_countAnew_11 rfl (by decide) ?_
  refine x_put 15 hB 0 (ws' := [(hr, .inr (2, [.ref h0, .int (nI 0), .int (nI 0), .int (nI 0), .int (nI (wr)), .int (bI plus), .int (bI first), .int (nI (mk)), .int (nI (rw))]))]) fp_R_23_2 rfl (rfl) (rfl) (Nat.le_of_ble_eq_true rfl) rfl d_R_countAnew_12 rfl ?_
  refine x_aload_n 16 hB d_R_countAnew_15 rfl rfl ?_
  refine x_iconst (v := nI 0) 17 hB d_R_countAnew_16 rfl (by decide) ?_
  refine x_put 20 hB 0 (ws' := [(hr, .inr (2, [.ref h0, .int (nI 0), .int (nI 0), .int (nI 0), .int (nI 0), .int (bI plus), .int (bI first), .int (nI (mk)), .int (nI (rw))]))]) fp_R_26_2 rfl (rfl) (rfl) (Nat.le_of_ble_eq_true rfl) rfl d_R_countAnew_17 rfl ?_
  exact x_vret hB (w' := [(hr, .inr (2, [.ref h0, .int (nI 0), .int (nI 0), .int (nI 0), .int (nI 0), .int (bI plus), .int (bI first), .int (nI (mk)), .int (nI (rw))]))]) hA [0] rfl rfl (xRet_i) (by decide) (by decide) d_R_countAnew_20
abbrev rm_R_slip_T : Room := { frames := 2, cells := 0, slots := 0, locals := 42 }
set_option maxHeartbeats 4000000 in
set_option maxRecDepth 100000 in
theorem c_R_slip_T (l : Launch) (E : xE) (hr h0 : Nat) (fo plus first : Bool) (sl bd wr mk rw : Nat) (a0 n p : Nat) (hp : p + 1 ≤ n) (hn : n ≤ 2640) : xC l E y_R_slip (.code y_R_slip prog_3_method_8_code 1 (some .int)) rm_R_slip_T [.ref hr] [(hr, .inr (2, [.ref h0, .int (bI fo), .int (nI (sl)), .int (nI (bd)), .int (nI (wr)), .int (bI plus), .int (bI first), .int (nI (mk)), .int (nI (rw))])), (h0, .inr (0, [.ref a0, .int (nI (n)), .int (nI (p))]))] (xRet (some (.int (-3))) [(hr, .inr (2, [.ref h0, .int (bI fo), .int (nI (sl + 1)), .int (nI (bd)), .int (nI (wr)), .int (bI plus), .int (bI first), .int (nI (mk)), .int (nI (rw))])), (h0, .inr (0, [.ref a0, .int (nI (n)), .int (nI (p + 1))]))]) := by
  refine x_of' (own := "LineCoder$Receiver") (mn := "slip") (lv := [(0, .ref hr)]) (plainFor_of_name (by decide)) rfl rfl (Nat.le_of_ble_eq_true rfl) rfl ?_
  intro p_ e_ s_ m_ ar_ be_ me_ c_ A_ hA hB
  refine x_aload_n 1 hB d_R_slip_0 rfl rfl ?_
  refine x_get 4 hB 0 fg_R_9_2 rfl rfl d_R_slip_1 rfl ?_
  refine x_iconst (v := nI 1) 5 hB d_R_slip_4 rfl (by decide) ?_
  refine x_callD (k' := 0) (n' := 0) (rest := []) (wr := [(hr, .inr (2, [.ref h0, .int (bI fo), .int (nI (sl)), .int (nI (bd)), .int (nI (wr)), .int (bI plus), .int (bI first), .int (nI (mk)), .int (nI (rw))]))]) (ws' := [(hr, .inr (2, [.ref h0, .int (bI fo), .int (nI (sl)), .int (nI (bd)), .int (nI (wr)), .int (bI plus), .int (bI first), .int (nI (mk)), .int (nI (rw))])), (h0, .inr (0, [.ref a0, .int (nI (n)), .int (nI (p + 1))]))]) (st' := []) 8 hB (x_pfV (av := [.int (nI 1)]) (q0 := 1) hB w_187 xHd_code w_184 w_185 w_186 rfl rfl nm_L_advance rfl d_R_slip_5) (c_L_advance l E h0 a0 n p 1 hp hn) w_187 xHd_code w_2 [1] [0] rfl rfl rfl rfl (by decide) ⟨by decide, by decide⟩ ⟨by decide, by decide⟩ rfl rfl (Nat.le_of_ble_eq_true rfl) d_R_slip_5 rfl rfl rfl ?_
  refine x_aload_n 9 hB d_R_slip_8 rfl rfl ?_
  refine x_dup 10 hB d_R_slip_9 rfl rfl ?_
  refine x_get 13 hB 0 fg_R_19_2 rfl rfl d_R_slip_10 rfl ?_
  refine x_iconst (v := nI 1) 14 hB d_R_slip_13 rfl (by decide) ?_
  refine x_iadd 15 hB d_R_slip_14 rfl ?_
  refine x_top (v' := .int (nI (sl + 1))) (congrArg Value.int (nI_add sl 1)) ?_
  refine x_put 18 hB 0 (ws' := [(hr, .inr (2, [.ref h0, .int (bI fo), .int (nI (sl + 1)), .int (nI (bd)), .int (nI (wr)), .int (bI plus), .int (bI first), .int (nI (mk)), .int (nI (rw))])), (h0, .inr (0, [.ref a0, .int (nI (n)), .int (nI (p + 1))]))]) fp_R_19_2 rfl (rfl) (rfl) (Nat.le_of_ble_eq_true rfl) rfl d_R_slip_15 rfl ?_
  refine x_bipush (v := (-3 : Int32)) 20 hB d_R_slip_18 rfl (by decide) ?_
  exact x_iret hB (w' := [(hr, .inr (2, [.ref h0, .int (bI fo), .int (nI (sl + 1)), .int (nI (bd)), .int (nI (wr)), .int (bI plus), .int (bI first), .int (nI (mk)), .int (nI (rw))])), (h0, .inr (0, [.ref a0, .int (nI (n)), .int (nI (p + 1))]))]) hA [0, 1] rfl rfl (xRet_i) (by decide) (by decide) d_R_slip_20
abbrev rm_R_init_W : Room := { frames := 1, cells := 0, slots := 0, locals := 20 }
set_option maxHeartbeats 4000000 in
set_option maxRecDepth 100000 in
theorem c_R_init_W (l : Launch) (E : xE) (hr h0 : Nat) : xC l E y_R_init (.code y_R_init prog_3_method_1_code 2 none) rm_R_init_W [.ref hr, .ref h0] [(hr, .inr (3, [.null, .int 0, .int 0, .int 0, .int 0, .null, .int 0, .int 0, .long 0]))] (xRet none [(hr, .inr (3, [.ref h0, .int (nI 0), .int (nI 0), .int (nI 0), .int (nI 0), .null, .int 0, .int 0, .long 0]))]) := by
  refine x_of' (own := "LineCoder$Receiver") (mn := "<init>") (lv := [(0, .ref hr), (1, .ref h0)]) (plainFor_of_name (by decide)) rfl rfl (Nat.le_of_ble_eq_true rfl) rfl ?_
  intro p_ e_ s_ m_ ar_ be_ me_ c_ A_ hA hB
  refine x_aload_n 1 hB d_R_init_0 rfl rfl ?_
  refine x_objInit 4 hB w_51 w_24 w_25 d_R_init_1 rfl (by decide) (Nat.le_of_ble_eq_true rfl) ?_
  refine x_aload_n 5 hB d_R_init_4 rfl rfl ?_
  refine x_aload_n 6 hB d_R_init_5 rfl rfl ?_
  refine x_putF 9 hB 0 (ws' := [(hr, .inr (3, [.ref h0, .int 0, .int 0, .int 0, .int 0, .null, .int 0, .int 0, .long 0]))]) fp_R_9_3 rfl (rfl) (rfl) (Nat.le_of_ble_eq_true rfl) rfl d_R_init_6 rfl ?_
  refine x_aload_n 10 hB d_R_init_9 rfl rfl ?_
  refine x_iconst (v := nI 0) 11 hB d_R_init_10 rfl (by decide) ?_
  refine x_put 14 hB 0 (ws' := [(hr, .inr (3, [.ref h0, .int (nI 0), .int 0, .int 0, .int 0, .null, .int 0, .int 0, .long 0]))]) fp_R_15_3 rfl (rfl) (rfl) (Nat.le_of_ble_eq_true rfl) rfl d_R_init_11 rfl ?_
  refine x_aload_n 15 hB d_R_init_14 rfl rfl ?_
  refine x_iconst (v := nI 0) 16 hB d_R_init_15 rfl (by decide) ?_
  refine x_put 19 hB 0 (ws' := [(hr, .inr (3, [.ref h0, .int (nI 0), .int (nI 0), .int 0, .int 0, .null, .int 0, .int 0, .long 0]))]) fp_R_19_3 rfl (rfl) (rfl) (Nat.le_of_ble_eq_true rfl) rfl d_R_init_16 rfl ?_
  refine x_aload_n 20 hB d_R_init_19 rfl rfl ?_
  refine x_iconst (v := nI 0) 21 hB d_R_init_20 rfl (by decide) ?_
  refine x_put 24 hB 0 (ws' := [(hr, .inr (3, [.ref h0, .int (nI 0), .int (nI 0), .int (nI 0), .int 0, .null, .int 0, .int 0, .long 0]))]) fp_R_23_3 rfl (rfl) (rfl) (Nat.le_of_ble_eq_true rfl) rfl d_R_init_21 rfl ?_
  refine x_aload_n 25 hB d_R_init_24 rfl rfl ?_
  refine x_iconst (v := nI 0) 26 hB d_R_init_25 rfl (by decide) ?_
  refine x_put 29 hB 0 (ws' := [(hr, .inr (3, [.ref h0, .int (nI 0), .int (nI 0), .int (nI 0), .int (nI 0), .null, .int 0, .int 0, .long 0]))]) fp_R_26_3 rfl (rfl) (rfl) (Nat.le_of_ble_eq_true rfl) rfl d_R_init_26 rfl ?_
  exact x_vret hB (w' := [(hr, .inr (3, [.ref h0, .int (nI 0), .int (nI 0), .int (nI 0), .int (nI 0), .null, .int 0, .int 0, .long 0]))]) hA [0] rfl rfl (xRet_i) (by decide) (by decide) d_R_init_29
abbrev rm_R_isFollowing_W : Room := { frames := 0, cells := 0, slots := 0, locals := 0 }
set_option maxHeartbeats 4000000 in
set_option maxRecDepth 100000 in
theorem c_R_isFollowing_W (l : Launch) (E : xE) (hr h0 hs : Nat) (fo : Bool) (sl bd wr gr : Nat) (la : Int32) (last : Int64) : xCp l E y_R_isFollowing (.code y_R_isFollowing prog_3_method_3_code 1 (some .boolean)) rm_R_isFollowing_W [.ref hr] [(hr, .inr (3, [.ref h0, .int (bI fo), .int (nI (sl)), .int (nI (bd)), .int (nI (wr)), .ref hs, .int (nI (gr)), .int (la), .long (last)]))] (.inl (some (.int (bI fo)))) := by
  refine x_ofP (own := "LineCoder$Receiver") (mn := "isFollowing") (lv := [(0, .ref hr)]) (plainFor_of_name (by decide)) rfl rfl (Nat.le_of_ble_eq_true rfl) rfl ?_
  intro p_ e_ s_ m_ ar_ be_ me_ c_ hB
  refine x_aload_n 1 hB d_R_isFollowing_0 rfl rfl ?_
  refine x_get 4 hB 0 fg_R_15_3 rfl rfl d_R_isFollowing_1 rfl ?_
  exact x_zretP hB (by cases fo <;> rfl) (rfl) (by decide) (by decide) d_R_isFollowing_4
abbrev rm_R_slips_W : Room := { frames := 0, cells := 0, slots := 0, locals := 0 }
set_option maxHeartbeats 4000000 in
set_option maxRecDepth 100000 in
theorem c_R_slips_W (l : Launch) (E : xE) (hr h0 hs : Nat) (fo : Bool) (sl bd wr gr : Nat) (la : Int32) (last : Int64) : xCp l E y_R_slips (.code y_R_slips prog_3_method_4_code 1 (some .int)) rm_R_slips_W [.ref hr] [(hr, .inr (3, [.ref h0, .int (bI fo), .int (nI (sl)), .int (nI (bd)), .int (nI (wr)), .ref hs, .int (nI (gr)), .int (la), .long (last)]))] (.inl (some (.int (nI (sl))))) := by
  refine x_ofP (own := "LineCoder$Receiver") (mn := "slips") (lv := [(0, .ref hr)]) (plainFor_of_name (by decide)) rfl rfl (Nat.le_of_ble_eq_true rfl) rfl ?_
  intro p_ e_ s_ m_ ar_ be_ me_ c_ hB
  refine x_aload_n 1 hB d_R_slips_0 rfl rfl ?_
  refine x_get 4 hB 0 fg_R_19_3 rfl rfl d_R_slips_1 rfl ?_
  exact x_iretP hB (rfl) (by decide) (by decide) d_R_slips_4
abbrev rm_R_bads_W : Room := { frames := 0, cells := 0, slots := 0, locals := 0 }
set_option maxHeartbeats 4000000 in
set_option maxRecDepth 100000 in
theorem c_R_bads_W (l : Launch) (E : xE) (hr h0 hs : Nat) (fo : Bool) (sl bd wr gr : Nat) (la : Int32) (last : Int64) : xCp l E y_R_bads (.code y_R_bads prog_3_method_5_code 1 (some .int)) rm_R_bads_W [.ref hr] [(hr, .inr (3, [.ref h0, .int (bI fo), .int (nI (sl)), .int (nI (bd)), .int (nI (wr)), .ref hs, .int (nI (gr)), .int (la), .long (last)]))] (.inl (some (.int (nI (bd))))) := by
  refine x_ofP (own := "LineCoder$Receiver") (mn := "bads") (lv := [(0, .ref hr)]) (plainFor_of_name (by decide)) rfl rfl (Nat.le_of_ble_eq_true rfl) rfl ?_
  intro p_ e_ s_ m_ ar_ be_ me_ c_ hB
  refine x_aload_n 1 hB d_R_bads_0 rfl rfl ?_
  refine x_get 4 hB 0 fg_R_23_3 rfl rfl d_R_bads_1 rfl ?_
  exact x_iretP hB (rfl) (by decide) (by decide) d_R_bads_4
abbrev rm_R_wrongs_W : Room := { frames := 0, cells := 0, slots := 0, locals := 0 }
set_option maxHeartbeats 4000000 in
set_option maxRecDepth 100000 in
theorem c_R_wrongs_W (l : Launch) (E : xE) (hr h0 hs : Nat) (fo : Bool) (sl bd wr gr : Nat) (la : Int32) (last : Int64) : xCp l E y_R_wrongs (.code y_R_wrongs prog_3_method_6_code 1 (some .int)) rm_R_wrongs_W [.ref hr] [(hr, .inr (3, [.ref h0, .int (bI fo), .int (nI (sl)), .int (nI (bd)), .int (nI (wr)), .ref hs, .int (nI (gr)), .int (la), .long (last)]))] (.inl (some (.int (nI (wr))))) := by
  refine x_ofP (own := "LineCoder$Receiver") (mn := "wrongs") (lv := [(0, .ref hr)]) (plainFor_of_name (by decide)) rfl rfl (Nat.le_of_ble_eq_true rfl) rfl ?_
  intro p_ e_ s_ m_ ar_ be_ me_ c_ hB
  refine x_aload_n 1 hB d_R_wrongs_0 rfl rfl ?_
  refine x_get 4 hB 0 fg_R_26_3 rfl rfl d_R_wrongs_1 rfl ?_
  exact x_iretP hB (rfl) (by decide) (by decide) d_R_wrongs_4
abbrev rm_R_countAnew_W : Room := { frames := 0, cells := 0, slots := 0, locals := 0 }
set_option maxHeartbeats 4000000 in
set_option maxRecDepth 100000 in
theorem c_R_countAnew_W (l : Launch) (E : xE) (hr h0 hs : Nat) (fo : Bool) (sl bd wr gr : Nat) (la : Int32) (last : Int64) : xC l E y_R_countAnew (.code y_R_countAnew prog_3_method_7_code 1 none) rm_R_countAnew_W [.ref hr] [(hr, .inr (3, [.ref h0, .int (bI fo), .int (nI (sl)), .int (nI (bd)), .int (nI (wr)), .ref hs, .int (nI (gr)), .int (la), .long (last)]))] (xRet none [(hr, .inr (3, [.ref h0, .int (nI 0), .int (nI 0), .int (nI 0), .int (nI 0), .ref hs, .int (nI (gr)), .int (la), .long (last)]))]) := by
  refine x_of' (own := "LineCoder$Receiver") (mn := "countAnew") (lv := [(0, .ref hr)]) (plainFor_of_name (by decide)) rfl rfl (Nat.le_of_ble_eq_true rfl) rfl ?_
  intro p_ e_ s_ m_ ar_ be_ me_ c_ A_ hA hB
  refine x_aload_n 1 hB d_R_countAnew_0 rfl rfl ?_
  refine x_iconst (v := nI 0) 2 hB d_R_countAnew_1 rfl (by decide) ?_
  refine x_put 5 hB 0 (ws' := [(hr, .inr (3, [.ref h0, .int (nI 0), .int (nI (sl)), .int (nI (bd)), .int (nI (wr)), .ref hs, .int (nI (gr)), .int (la), .long (last)]))]) fp_R_15_3 rfl (rfl) (rfl) (Nat.le_of_ble_eq_true rfl) rfl d_R_countAnew_2 rfl ?_
  refine x_aload_n 6 hB d_R_countAnew_5 rfl rfl ?_
  refine x_iconst (v := nI 0) 7 hB d_R_countAnew_6 rfl (by decide) ?_
  refine x_put 10 hB 0 (ws' := [(hr, .inr (3, [.ref h0, .int (nI 0), .int (nI 0), .int (nI (bd)), .int (nI (wr)), .ref hs, .int (nI (gr)), .int (la), .long (last)]))]) fp_R_19_3 rfl (rfl) (rfl) (Nat.le_of_ble_eq_true rfl) rfl d_R_countAnew_7 rfl ?_
  refine x_aload_n 11 hB d_R_countAnew_10 rfl rfl ?_
  refine x_iconst (v := nI 0) 12 hB d_R_countAnew_11 rfl (by decide) ?_
  refine x_put 15 hB 0 (ws' := [(hr, .inr (3, [.ref h0, .int (nI 0), .int (nI 0), .int (nI 0), .int (nI (wr)), .ref hs, .int (nI (gr)), .int (la), .long (last)]))]) fp_R_23_3 rfl (rfl) (rfl) (Nat.le_of_ble_eq_true rfl) rfl d_R_countAnew_12 rfl ?_
  refine x_aload_n 16 hB d_R_countAnew_15 rfl rfl ?_
  refine x_iconst (v := nI 0) 17 hB d_R_countAnew_16 rfl (by decide) ?_
  refine x_put 20 hB 0 (ws' := [(hr, .inr (3, [.ref h0, .int (nI 0), .int (nI 0), .int (nI 0), .int (nI 0), .ref hs, .int (nI (gr)), .int (la), .long (last)]))]) fp_R_26_3 rfl (rfl) (rfl) (Nat.le_of_ble_eq_true rfl) rfl d_R_countAnew_17 rfl ?_
  exact x_vret hB (w' := [(hr, .inr (3, [.ref h0, .int (nI 0), .int (nI 0), .int (nI 0), .int (nI 0), .ref hs, .int (nI (gr)), .int (la), .long (last)]))]) hA [0] rfl rfl (xRet_i) (by decide) (by decide) d_R_countAnew_20
abbrev rm_R_slip_W : Room := { frames := 2, cells := 0, slots := 0, locals := 42 }
set_option maxHeartbeats 4000000 in
set_option maxRecDepth 100000 in
theorem c_R_slip_W (l : Launch) (E : xE) (hr h0 hs : Nat) (fo : Bool) (sl bd wr gr : Nat) (la : Int32) (last : Int64) (a0 n p : Nat) (hp : p + 1 ≤ n) (hn : n ≤ 2640) : xC l E y_R_slip (.code y_R_slip prog_3_method_8_code 1 (some .int)) rm_R_slip_W [.ref hr] [(hr, .inr (3, [.ref h0, .int (bI fo), .int (nI (sl)), .int (nI (bd)), .int (nI (wr)), .ref hs, .int (nI (gr)), .int (la), .long (last)])), (h0, .inr (0, [.ref a0, .int (nI (n)), .int (nI (p))]))] (xRet (some (.int (-3))) [(hr, .inr (3, [.ref h0, .int (bI fo), .int (nI (sl + 1)), .int (nI (bd)), .int (nI (wr)), .ref hs, .int (nI (gr)), .int (la), .long (last)])), (h0, .inr (0, [.ref a0, .int (nI (n)), .int (nI (p + 1))]))]) := by
  refine x_of' (own := "LineCoder$Receiver") (mn := "slip") (lv := [(0, .ref hr)]) (plainFor_of_name (by decide)) rfl rfl (Nat.le_of_ble_eq_true rfl) rfl ?_
  intro p_ e_ s_ m_ ar_ be_ me_ c_ A_ hA hB
  refine x_aload_n 1 hB d_R_slip_0 rfl rfl ?_
  refine x_get 4 hB 0 fg_R_9_3 rfl rfl d_R_slip_1 rfl ?_
  refine x_iconst (v := nI 1) 5 hB d_R_slip_4 rfl (by decide) ?_
  refine x_callD (k' := 0) (n' := 0) (rest := []) (wr := [(hr, .inr (3, [.ref h0, .int (bI fo), .int (nI (sl)), .int (nI (bd)), .int (nI (wr)), .ref hs, .int (nI (gr)), .int (la), .long (last)]))]) (ws' := [(hr, .inr (3, [.ref h0, .int (bI fo), .int (nI (sl)), .int (nI (bd)), .int (nI (wr)), .ref hs, .int (nI (gr)), .int (la), .long (last)])), (h0, .inr (0, [.ref a0, .int (nI (n)), .int (nI (p + 1))]))]) (st' := []) 8 hB (x_pfV (av := [.int (nI 1)]) (q0 := 1) hB w_187 xHd_code w_184 w_185 w_186 rfl rfl nm_L_advance rfl d_R_slip_5) (c_L_advance l E h0 a0 n p 1 hp hn) w_187 xHd_code w_2 [1] [0] rfl rfl rfl rfl (by decide) ⟨by decide, by decide⟩ ⟨by decide, by decide⟩ rfl rfl (Nat.le_of_ble_eq_true rfl) d_R_slip_5 rfl rfl rfl ?_
  refine x_aload_n 9 hB d_R_slip_8 rfl rfl ?_
  refine x_dup 10 hB d_R_slip_9 rfl rfl ?_
  refine x_get 13 hB 0 fg_R_19_3 rfl rfl d_R_slip_10 rfl ?_
  refine x_iconst (v := nI 1) 14 hB d_R_slip_13 rfl (by decide) ?_
  refine x_iadd 15 hB d_R_slip_14 rfl ?_
  refine x_top (v' := .int (nI (sl + 1))) (congrArg Value.int (nI_add sl 1)) ?_
  refine x_put 18 hB 0 (ws' := [(hr, .inr (3, [.ref h0, .int (bI fo), .int (nI (sl + 1)), .int (nI (bd)), .int (nI (wr)), .ref hs, .int (nI (gr)), .int (la), .long (last)])), (h0, .inr (0, [.ref a0, .int (nI (n)), .int (nI (p + 1))]))]) fp_R_19_3 rfl (rfl) (rfl) (Nat.le_of_ble_eq_true rfl) rfl d_R_slip_15 rfl ?_
  refine x_bipush (v := (-3 : Int32)) 20 hB d_R_slip_18 rfl (by decide) ?_
  exact x_iret hB (w' := [(hr, .inr (3, [.ref h0, .int (bI fo), .int (nI (sl + 1)), .int (nI (bd)), .int (nI (wr)), .ref hs, .int (nI (gr)), .int (la), .long (last)])), (h0, .inr (0, [.ref a0, .int (nI (n)), .int (nI (p + 1))]))]) hA [0, 1] rfl rfl (xRet_i) (by decide) (by decide) d_R_slip_20
abbrev rm_T_hasPlus : Room := { frames := 0, cells := 0, slots := 0, locals := 0 }
set_option maxHeartbeats 4000000 in
set_option maxRecDepth 100000 in
theorem c_T_hasPlus (l : Launch) (E : xE) (hr h0 : Nat) (fo plus first : Bool) (sl bd wr mk rw : Nat) : xCp l E y_T_hasPlus (.code y_T_hasPlus prog_6_method_3_code 1 (some .boolean)) rm_T_hasPlus [.ref hr] [(hr, .inr (2, [.ref h0, .int (bI fo), .int (nI (sl)), .int (nI (bd)), .int (nI (wr)), .int (bI plus), .int (bI first), .int (nI (mk)), .int (nI (rw))]))] (.inl (some (.int (bI plus)))) := by
  refine x_ofP (own := "LineCoder$TenReceiver") (mn := "hasPlus") (lv := [(0, .ref hr)]) (plainFor_of_name (by decide)) rfl rfl (Nat.le_of_ble_eq_true rfl) rfl ?_
  intro p_ e_ s_ m_ ar_ be_ me_ c_ hB
  refine x_aload_n 1 hB d_T_hasPlus_0 rfl rfl ?_
  refine x_get 4 hB 0 fg_T_9_2 rfl rfl d_T_hasPlus_1 rfl ?_
  exact x_zretP hB (by cases plus <;> rfl) (rfl) (by decide) (by decide) d_T_hasPlus_4
abbrev rm_T_marks : Room := { frames := 0, cells := 0, slots := 0, locals := 0 }
set_option maxHeartbeats 4000000 in
set_option maxRecDepth 100000 in
theorem c_T_marks (l : Launch) (E : xE) (hr h0 : Nat) (fo plus first : Bool) (sl bd wr mk rw : Nat) : xCp l E y_T_marks (.code y_T_marks prog_6_method_4_code 1 (some .int)) rm_T_marks [.ref hr] [(hr, .inr (2, [.ref h0, .int (bI fo), .int (nI (sl)), .int (nI (bd)), .int (nI (wr)), .int (bI plus), .int (bI first), .int (nI (mk)), .int (nI (rw))]))] (.inl (some (.int (nI (mk))))) := by
  refine x_ofP (own := "LineCoder$TenReceiver") (mn := "marks") (lv := [(0, .ref hr)]) (plainFor_of_name (by decide)) rfl rfl (Nat.le_of_ble_eq_true rfl) rfl ?_
  intro p_ e_ s_ m_ ar_ be_ me_ c_ hB
  refine x_aload_n 1 hB d_T_marks_0 rfl rfl ?_
  refine x_get 4 hB 0 fg_T_18_2 rfl rfl d_T_marks_1 rfl ?_
  exact x_iretP hB (rfl) (by decide) (by decide) d_T_marks_4
abbrev rm_W_lastWord : Room := { frames := 0, cells := 0, slots := 0, locals := 0 }
set_option maxHeartbeats 4000000 in
set_option maxRecDepth 100000 in
theorem c_W_lastWord (l : Launch) (E : xE) (hr h0 hs : Nat) (fo : Bool) (sl bd wr gr : Nat) (la : Int32) (last : Int64) : xCp l E y_W_lastWord (.code y_W_lastWord prog_8_method_3_code 1 (some .long)) rm_W_lastWord [.ref hr] [(hr, .inr (3, [.ref h0, .int (bI fo), .int (nI (sl)), .int (nI (bd)), .int (nI (wr)), .ref hs, .int (nI (gr)), .int (la), .long (last)]))] (.inl (some (.long (last)))) := by
  refine x_ofP (own := "LineCoder$WordReceiver") (mn := "lastWord") (lv := [(0, .ref hr)]) (plainFor_of_name (by decide)) rfl rfl (Nat.le_of_ble_eq_true rfl) rfl ?_
  intro p_ e_ s_ m_ ar_ be_ me_ c_ hB
  refine x_aload_n 1 hB d_W_lastWord_0 rfl rfl ?_
  refine x_get 4 hB 0 fg_W_27_3 rfl rfl d_W_lastWord_1 rfl ?_
  exact x_lretP hB (rfl) (by decide) (by decide) d_W_lastWord_4
end
section
/-! the pure side of the tens -/
def us (x : Int32) (i : Nat) : Int32 := (x.toUInt32 >>> ((nI i).toUInt32 &&& Int32.toUInt32 31)).toInt32
def bc1 (x : Int32) : Int32 := x - (us x 1 &&& 1431655765)
def bc2 (x : Int32) : Int32 := (x &&& 858993459) + (us x 2 &&& 858993459)
def bc3 (x : Int32) : Int32 := (x + us x 4) &&& 252645135
def bc4 (x : Int32) : Int32 := x + us x 8
def bc5 (x : Int32) : Int32 := x + us x 16
def bcF (x : Int32) : Int32 := bc5 (bc4 (bc3 (bc2 (bc1 x)))) &&& nI 63
def pc6 (v : Nat) : Nat := v % 2 + v / 2 % 2 + v / 4 % 2 + v / 8 % 2 + v / 16 % 2 + v / 32 % 2
theorem bc_small : ∀ v, v < 64 → bcF (nI v) = nI (pc6 v) := by decide +kernel
theorem pc6_le (v : Nat) : pc6 v ≤ 6 := by unfold pc6; omega
def sixN (j : Nat) : Nat := [39, 29, 45, 49, 53, 41, 25, 56, 57, 37, 21, 52, 13, 44, 28, 23, 27, 35, 19, 50, 11, 42, 26, 58, 51, 38, 22, 54, 14, 46, 30, 43].getD j 0
def fourN (j : Nat) : Nat := [11, 9, 5, 12, 13, 10, 6, 14].getD j 0
theorem sixT_N : ∀ j, j < 32 → sixT j = nI (sixN j) := by decide +kernel
theorem fourT_N : ∀ j, j < 8 → fourT j = nI (fourN j) := by decide +kernel
theorem sixN_lt : ∀ j, j < 32 → sixN j < 64 := by decide +kernel
theorem fourN_lt : ∀ j, j < 8 → fourN j < 16 := by decide +kernel
def six0 (s : Nat) : Nat := if 256 ≤ s ∧ s % 32 = 28 then 15 else sixN (s % 32)
theorem six0_lt (s : Nat) : six0 s < 64 := by
  unfold six0
  split
  · omega
  · exact sixN_lt _ (by omega)
/-- has the six (four) a form for PLUS -/
def hp6 (v : Nat) : Bool := decide (pc6 v ≠ 3 ∨ v = 56)
def hp4 (v : Nat) : Bool := decide (pc6 v ≠ 2 ∨ v = 12)
def sixF (s : Nat) (plus : Bool) : Nat := if plus && hp6 (six0 s) then 63 - six0 s else six0 s
theorem sixF_lt (s : Nat) (plus : Bool) : sixF s plus < 64 := by
  have := six0_lt s
  unfold sixF
  split <;> omega
def isS (s : Nat) : Bool := decide (s < 256) || decide (s % 32 = 28) || (decide (s / 32 % 8 = 7) && decide (s % 32 = 23 ∨ s % 32 = 27 ∨ s % 32 = 29 ∨ s % 32 = 30))
/-- the other four of y = 7 -/
def oth (s : Nat) (plus : Bool) : Bool := if plus then decide (s % 32 = 11 ∨ s % 32 = 13 ∨ s % 32 = 14) else decide (s % 32 = 17 ∨ s % 32 = 18 ∨ s % 32 = 20)
def four0 (s : Nat) (plus : Bool) : Nat := if s / 32 % 8 = 7 ∧ (256 ≤ s ∨ oth s plus = true) then 7 else fourN (s / 32 % 8)
theorem four0_lt (s : Nat) (plus : Bool) : four0 s plus < 16 := by
  unfold four0
  split
  · omega
  · exact fourN_lt _ (by omega)
def trn (s : Nat) (plus : Bool) : Bool := if hp4 (four0 s plus) then plus else decide (256 ≤ s) && !plus
def fourF (s : Nat) (plus : Bool) : Nat := if trn s plus then 15 - four0 s plus else four0 s plus
theorem fourF_lt (s : Nat) (plus : Bool) : fourF s plus < 16 := by
  have := four0_lt s plus
  unfold fourF
  split <;> omega
def pb6 (v : Nat) (plus : Bool) : Bool := if pc6 v ≠ 3 then decide (3 < pc6 v) else decide (v = 7) || (decide (v ≠ 56) && plus)
def pb4 (v : Nat) (plus : Bool) : Bool := if pc6 v ≠ 2 then decide (2 < pc6 v) else decide (v = 3) || (decide (v ≠ 12) && plus)
def encF (s : Nat) (plus : Bool) : Nat := sixF s plus * 16 + fourF s (pb6 (sixF s plus) plus)
theorem encF_lt (s : Nat) (plus : Bool) : encF s plus < 1024 := by
  have := sixF_lt s plus
  have := fourF_lt s (pb6 (sixF s plus) plus)
  unfold encF
  omega
def pbT (ten : Nat) (plus : Bool) : Bool := pb4 (ten % 16) (pb6 (ten / 16) plus)
theorem xr63 : ∀ v, v < 64 → nI v ^^^ nI 63 = nI (63 - v) := by decide +kernel
theorem xr15 : ∀ v, v < 16 → nI v ^^^ nI 15 = nI (15 - v) := by decide +kernel
theorem bI_0 {b : Bool} (h : bI b = 0) : b = false := by cases b; rfl; exact absurd h (by decide)
theorem bI_1 {b : Bool} (h : ¬ bI b = 0) : b = true := by cases b; exact absurd (by decide) h; rfl
theorem nrb (b : Bool) : narrow .boolean (.int (bI b)) = .int (bI b) := by cases b <;> rfl
theorem an31 {s : Nat} (h : s < 512) : nI s &&& nI 31 = nI (s % 32) := pk_andN (by omega) 5 (by decide)
theorem an15 {s : Nat} (h : s < 1024) : nI s &&& nI 15 = nI (s % 16) := pk_andN (by omega) 4 (by decide)
theorem sh5 {s : Nat} (h : s < 512) : nI s >>> (nI 5 &&& 31) = nI (s / 32) := pk_shrN (by omega) _ 5 (by decide)
theorem sh4 {s : Nat} (h : s < 1024) : nI s >>> (nI 4 &&& 31) = nI (s / 16) := pk_shrN (by omega) _ 4 (by decide)
theorem an7 {s : Nat} (h : s < 512) : nI s &&& nI 7 = nI (s % 8) := pk_andN (by omega) 3 (by decide)
theorem sl4 {v : Nat} (h : v < 64) : nI v <<< (nI 4 &&& 31) = nI (v * 16) := pk_shlN _ 4 (by decide) (by omega)
theorem or16 : ∀ v, v < 64 → ∀ u, u < 16 → nI (v * 16) ||| nI u = nI (v * 16 + u) := by decide +kernel
theorem amg7 : ∀ x, x < 32 → (xbit 1753219072 x = nI 1 ↔ (x = 23 ∨ x = 27 ∨ x = 29 ∨ x = 30)) := by decide +kernel
theorem amgP : ∀ x, x < 32 → (xbit (nI 26624) x = nI 1 ↔ (x = 11 ∨ x = 13 ∨ x = 14)) := by decide +kernel
theorem amgM : ∀ x, x < 32 → (xbit 1441792 x = nI 1 ↔ (x = 17 ∨ x = 18 ∨ x = 20)) := by decide +kernel
theorem bT {b : Bool} (h : b = true) : nI 1 = bI b := by rw [h]; rfl
theorem bF0 {b : Bool} (h : b = false) : nI 0 = bI b := by rw [h]; rfl
def sV (z : Int32) : Option Value := some (.int z)
theorem sVe {a b : Int32} (h : a = b) : (some (.int a) : Option Value) = some (.int b) := by rw [h]
def othS (plus : Bool) : Int32 := if plus then nI 26624 else 1441792
theorem oth_e (s : Nat) (plus : Bool) : bI (decide (xbit (othS plus) (s % 32) = nI 1)) = bI (oth s plus) := by
  congr 1
  cases plus
  · exact decide_eq_decide.mpr (amgM _ (by omega))
  · exact decide_eq_decide.mpr (amgP _ (by omega))
def scanF (p : Nat → Bool) : Nat → Nat → Option Nat
  | 0, _ => none
  | k + 1, x => if p x then some x else scanF p k (x + 1)
theorem scanF_t {p : Nat → Bool} {k x : Nat} (hk : 0 < k) (h : p x = true) : scanF p k x = some x := by
  obtain ⟨j, rfl⟩ : ∃ j, k = j + 1 := ⟨k - 1, by omega⟩
  rw [scanF, if_pos h]
theorem scanF_f {p : Nat → Bool} {k x : Nat} (hk : 0 < k) (h : p x = false) : scanF p k x = scanF p (k - 1) (x + 1) := by
  obtain ⟨j, rfl⟩ : ∃ j, k = j + 1 := ⟨k - 1, by omega⟩
  rw [scanF, if_neg (by rw [h]; decide)]
  rfl
def oI (o : Option Nat) : Int32 := match o with
  | none => (-1 : Int32)
  | some x => nI x
def xP (v : Nat) (plus : Bool) (x : Nat) : Bool := decide (sixF x plus = v) || decide (sixF (256 + x) plus = v)
def xoF (v : Nat) (plus : Bool) : Option Nat := scanF (xP v plus) 32 0
theorem scanF_lt {p : Nat → Bool} : ∀ {k x y : Nat}, scanF p k x = some y → y < x + k ∧ p y = true
  | 0, x, y, h => by simp [scanF] at h
  | k + 1, x, y, h => by
    rw [scanF] at h
    split at h
    · cases h
      exact ⟨by omega, by assumption⟩
    · have := scanF_lt h
      exact ⟨by omega, this.2⟩
def dP (ten : Nat) (plus : Bool) (x i : Nat) : Bool := isS (x + 32 * i) && decide (encF (x + 32 * i) plus = ten)
def decF (ten : Nat) (plus : Bool) : Option Nat := match xoF (ten / 16) plus with
  | none => none
  | some x => match scanF (dP ten plus x) 16 0 with
    | none => none
    | some i => some (x + 32 * i)
theorem scanF_n {p : Nat → Bool} {N x : Nat} (h : x < N) (hp : p x = false) : scanF p (N - (x + 1)) (x + 1) = scanF p (N - x) x := by
  rw [scanF_f (by omega) hp, Nat.sub_sub]
theorem nI_m1 {x : Nat} (h : x < 2 ^ 31) : ¬ nI x = (-1 : Int32) := by
  intro h1
  have h3 := congrArg Int32.toInt h1
  rw [nI_toInt h] at h3
  have h2 : ((-1 : Int32)).toInt = -1 := by decide
  omega
end
section
abbrev rm_JI_bitCount : Room := { frames := 0, cells := 0, slots := 0, locals := 0 }
set_option maxHeartbeats 4000000 in
set_option maxRecDepth 100000 in
theorem c_JI_bitCount (l : Launch) (E : xE) (x : Int32) : xCp l E y_JI_bitCount (.code y_JI_bitCount prog_15_method_49_code 1 (some .int)) rm_JI_bitCount [.int (x)] [] (.inl (some (.int (bcF x)))) := by
  refine x_ofP (own := "java/lang/Integer") (mn := "bitCount") (lv := [(0, .int (x))]) (by decide +kernel) rfl rfl (Nat.le_of_ble_eq_true rfl) rfl ?_
  intro p_ e_ s_ m_ ar_ be_ me_ c_ hB
  refine x_iload_n 1 hB d_JI_bitCount_0 rfl rfl ?_
  refine x_iload_n 2 hB d_JI_bitCount_1 rfl rfl ?_
  refine x_iconst (v := nI 1) 3 hB d_JI_bitCount_2 rfl (by decide) ?_
  refine x_iushr (v := us x 1) 4 hB d_JI_bitCount_3 rfl (rfl) ?_
  refine x_ldcw 7 hB d_JI_bitCount_4 rfl w_211 ?_
  refine x_iand 8 hB d_JI_bitCount_7 rfl ?_
  refine x_isub 9 hB d_JI_bitCount_8 rfl ?_
  refine x_top (v' := .int (bc1 x)) (congrArg Value.int (rfl)) ?_
  refine x_istore_n 10 hB d_JI_bitCount_9 rfl (by decide) (lv' := [(0, .int (bc1 x))]) rfl ?_
  refine x_iload_n 11 hB d_JI_bitCount_10 rfl rfl ?_
  refine x_ldcw 14 hB d_JI_bitCount_11 rfl w_212 ?_
  refine x_iand 15 hB d_JI_bitCount_14 rfl ?_
  refine x_iload_n 16 hB d_JI_bitCount_15 rfl rfl ?_
  refine x_iconst (v := nI 2) 17 hB d_JI_bitCount_16 rfl (by decide) ?_
  refine x_iushr (v := us (bc1 x) 2) 18 hB d_JI_bitCount_17 rfl (rfl) ?_
  refine x_ldcw 21 hB d_JI_bitCount_18 rfl w_212 ?_
  refine x_iand 22 hB d_JI_bitCount_21 rfl ?_
  refine x_iadd 23 hB d_JI_bitCount_22 rfl ?_
  refine x_top (v' := .int (bc2 (bc1 x))) (congrArg Value.int (rfl)) ?_
  refine x_istore_n 24 hB d_JI_bitCount_23 rfl (by decide) (lv' := [(0, .int (bc2 (bc1 x)))]) rfl ?_
  refine x_iload_n 25 hB d_JI_bitCount_24 rfl rfl ?_
  refine x_iload_n 26 hB d_JI_bitCount_25 rfl rfl ?_
  refine x_iconst (v := nI 4) 27 hB d_JI_bitCount_26 rfl (by decide) ?_
  refine x_iushr (v := us (bc2 (bc1 x)) 4) 28 hB d_JI_bitCount_27 rfl (rfl) ?_
  refine x_iadd 29 hB d_JI_bitCount_28 rfl ?_
  refine x_ldcw 32 hB d_JI_bitCount_29 rfl w_213 ?_
  refine x_iand 33 hB d_JI_bitCount_32 rfl ?_
  refine x_top (v' := .int (bc3 (bc2 (bc1 x)))) (congrArg Value.int (rfl)) ?_
  refine x_istore_n 34 hB d_JI_bitCount_33 rfl (by decide) (lv' := [(0, .int (bc3 (bc2 (bc1 x))))]) rfl ?_
  refine x_iload_n 35 hB d_JI_bitCount_34 rfl rfl ?_
  refine x_iload_n 36 hB d_JI_bitCount_35 rfl rfl ?_
  refine x_bipush (v := nI 8) 38 hB d_JI_bitCount_36 rfl (by decide) ?_
  refine x_iushr (v := us (bc3 (bc2 (bc1 x))) 8) 39 hB d_JI_bitCount_38 rfl (rfl) ?_
  refine x_iadd 40 hB d_JI_bitCount_39 rfl ?_
  refine x_top (v' := .int (bc4 (bc3 (bc2 (bc1 x))))) (congrArg Value.int (rfl)) ?_
  refine x_istore_n 41 hB d_JI_bitCount_40 rfl (by decide) (lv' := [(0, .int (bc4 (bc3 (bc2 (bc1 x)))))]) rfl ?_
  refine x_iload_n 42 hB d_JI_bitCount_41 rfl rfl ?_
  refine x_iload_n 43 hB d_JI_bitCount_42 rfl rfl ?_
  refine x_bipush (v := nI 16) 45 hB d_JI_bitCount_43 rfl (by decide) ?_
  refine x_iushr (v := us (bc4 (bc3 (bc2 (bc1 x)))) 16) 46 hB d_JI_bitCount_45 rfl (rfl) ?_
  refine x_iadd 47 hB d_JI_bitCount_46 rfl ?_
  refine x_top (v' := .int (bc5 (bc4 (bc3 (bc2 (bc1 x)))))) (congrArg Value.int (rfl)) ?_
  refine x_istore_n 48 hB d_JI_bitCount_47 rfl (by decide) (lv' := [(0, .int (bc5 (bc4 (bc3 (bc2 (bc1 x))))))]) rfl ?_
  refine x_iload_n 49 hB d_JI_bitCount_48 rfl rfl ?_
  refine x_bipush (v := nI 63) 51 hB d_JI_bitCount_49 rfl (by decide) ?_
  refine x_iand 52 hB d_JI_bitCount_51 rfl ?_
  refine x_top (v' := .int (bcF x)) (congrArg Value.int (rfl)) ?_
  exact x_iretP hB (rfl) (by decide) (by decide) d_JI_bitCount_52
abbrev rm_K_isAmong : Room := { frames := 0, cells := 0, slots := 0, locals := 0 }
set_option maxHeartbeats 4000000 in
set_option maxRecDepth 100000 in
theorem c_K_isAmong (l : Launch) (E : xE) (x : Nat) (z : Int32) : xCp l E y_K_isAmong (.code y_K_isAmong prog_5_method_6_code 2 (some .boolean)) rm_K_isAmong [.int (nI (x)), .int (z)] [] (.inl (some (.int (bI (decide (xbit z x = nI 1)))))) := by
  refine x_ofP (own := "LineCoder$TenCode") (mn := "isAmong") (lv := [(0, .int (nI (x))), (1, .int (z))]) (plainFor_of_name (by decide)) rfl rfl (Nat.le_of_ble_eq_true rfl) rfl ?_
  intro p_ e_ s_ m_ ar_ be_ me_ c_ hB
  refine x_iload_n 1 hB d_K_isAmong_0 rfl rfl ?_
  refine x_iload_n 2 hB d_K_isAmong_1 rfl rfl ?_
  refine x_iushr (v := (z.toUInt32 >>> ((nI x).toUInt32 &&& Int32.toUInt32 31)).toInt32) 3 hB d_K_isAmong_2 rfl (rfl) ?_
  refine x_iconst (v := nI 1) 4 hB d_K_isAmong_3 rfl (by decide) ?_
  refine x_iand 5 hB d_K_isAmong_4 rfl ?_
  refine x_top (v' := .int (xbit z x)) (congrArg Value.int (rfl)) ?_
  refine x_iconst (v := nI 1) 6 hB d_K_isAmong_5 rfl (by decide) ?_
  refine x_icmp_ne 13 9 hB d_K_isAmong_6 (by decide) rfl (fun h6 => ?_) (fun h6 => ?_)
  · skip
    refine x_iconst (v := nI 0) 14 hB d_K_isAmong_13 rfl (by decide) ?_
    exact x_zretP hB (by decide) (sVe (bF0 (decide_eq_false h6))) (by decide) (by decide) d_K_isAmong_14
  · skip
    refine x_iconst (v := nI 1) 10 hB d_K_isAmong_9 rfl (by decide) ?_
    refine x_goto 14 hB d_K_isAmong_10 (by decide) ?_
    exact x_zretP hB (by decide) (sVe (bT (decide_eq_true h6))) (by decide) (by decide) d_K_isAmong_14
abbrev rm_K_isSymbol_out : Room := { frames := 0, cells := 0, slots := 0, locals := 0 }
set_option maxHeartbeats 4000000 in
set_option maxRecDepth 100000 in
theorem c_K_isSymbol_out (l : Launch) (E : xE) (k : Int32) (hk : k < 0 ∨ nI 512 ≤ k) : xCp l E y_K_isSymbol (.code y_K_isSymbol prog_5_method_2_code 3 (some .boolean)) rm_K_isSymbol_out [.int (k)] [] (.inl (some (.int (nI 0)))) := by
  refine x_ofP (own := "LineCoder$TenCode") (mn := "isSymbol") (lv := [(0, .int (k))]) (plainFor_of_name (by decide)) rfl rfl (Nat.le_of_ble_eq_true rfl) rfl ?_
  intro p_ e_ s_ m_ ar_ be_ me_ c_ hB
  refine x_iload_n 1 hB d_K_isSymbol_0 rfl rfl ?_
  refine x_if_lt 11 4 hB d_K_isSymbol_1 (by decide) rfl (fun h1 => ?_) (fun h1 => ?_)
  · skip
    refine x_iconst (v := nI 0) 12 hB d_K_isSymbol_11 rfl (by decide) ?_
    exact x_zretP hB (by decide) (rfl) (by decide) (by decide) d_K_isSymbol_12
  · skip
    refine x_iload_n 5 hB d_K_isSymbol_4 rfl rfl ?_
    refine x_sipush (v := nI 512) 8 hB d_K_isSymbol_5 rfl (by decide) ?_
    refine x_icmp_lt 13 11 hB d_K_isSymbol_8 (by decide) rfl (fun hc => absurd hc (fun h => absurd h (Int32.not_lt.mpr (hk.resolve_left h1)))) (fun _ => ?_)
    refine x_iconst (v := nI 0) 12 hB d_K_isSymbol_11 rfl (by decide) ?_
    exact x_zretP hB (by decide) (rfl) (by decide) (by decide) d_K_isSymbol_12
abbrev rm_K_isSymbol : Room := { frames := 1, cells := 0, slots := 0, locals := 21 }
set_option maxHeartbeats 4000000 in
set_option maxRecDepth 100000 in
theorem c_K_isSymbol (l : Launch) (E : xE) (s : Nat) (hs : s < 512) : xCp l E y_K_isSymbol (.code y_K_isSymbol prog_5_method_2_code 3 (some .boolean)) rm_K_isSymbol [.int (nI (s))] [] (.inl (some (.int (bI (isS s))))) := by
  refine x_ofP (own := "LineCoder$TenCode") (mn := "isSymbol") (lv := [(0, .int (nI (s)))]) (plainFor_of_name (by decide)) rfl rfl (Nat.le_of_ble_eq_true rfl) rfl ?_
  intro p_ e_ s_ m_ ar_ be_ me_ c_ hB
  refine x_iload_n 1 hB d_K_isSymbol_0 rfl rfl ?_
  refine x_if_lt 11 4 hB d_K_isSymbol_1 (by decide) rfl (fun hc => absurd hc (nI_pos (by omega))) (fun _ => ?_)
  refine x_iload_n 5 hB d_K_isSymbol_4 rfl rfl ?_
  refine x_sipush (v := nI 512) 8 hB d_K_isSymbol_5 rfl (by decide) ?_
  refine x_icmp_lt 13 11 hB d_K_isSymbol_8 (by decide) rfl (fun _ => ?_) (fun hc => absurd (nI_lt hs (by decide)) hc)
  refine x_iload_n 14 hB d_K_isSymbol_13 rfl rfl ?_
  refine x_bipush (v := nI 31) 16 hB d_K_isSymbol_14 rfl (by decide) ?_
  refine x_iand 17 hB d_K_isSymbol_16 rfl ?_
  refine x_top (v' := .int (nI (s % 32))) (congrArg Value.int (an31 hs)) ?_
  refine x_istore_n 18 hB d_K_isSymbol_17 rfl (by decide) (lv' := [(1, .int (nI (s % 32))), (0, .int (nI (s)))]) rfl ?_
  refine x_iload_n 19 hB d_K_isSymbol_18 rfl rfl ?_
  refine x_iconst (v := nI 5) 20 hB d_K_isSymbol_19 rfl (by decide) ?_
  refine x_ishr 21 hB d_K_isSymbol_20 rfl ?_
  refine x_top (v' := .int (nI (s / 32))) (congrArg Value.int (sh5 hs)) ?_
  refine x_bipush (v := nI 7) 23 hB d_K_isSymbol_21 rfl (by decide) ?_
  refine x_iand 24 hB d_K_isSymbol_23 rfl ?_
  refine x_top (v' := .int (nI (s / 32 % 8))) (congrArg Value.int (an7 (by omega))) ?_
  refine x_istore_n 25 hB d_K_isSymbol_24 rfl (by decide) (lv' := [(2, .int (nI (s / 32 % 8))), (1, .int (nI (s % 32))), (0, .int (nI (s)))]) rfl ?_
  refine x_iload_n 26 hB d_K_isSymbol_25 rfl rfl ?_
  refine x_sipush (v := nI 256) 29 hB d_K_isSymbol_26 rfl (by decide) ?_
  refine x_icmp_lt 53 32 hB d_K_isSymbol_29 (by decide) rfl (fun h29 => ?_) (fun h29 => ?_)
  · skip
    have k29 : s < 256 := (nI_ltI (by omega) (by omega)).mp h29
    refine x_iconst (v := nI 1) 54 hB d_K_isSymbol_53 rfl (by decide) ?_
    refine x_goto 58 hB d_K_isSymbol_54 (by decide) ?_
    exact x_zretP hB (by decide) (sVe (bT (by simp [isS, k29]))) (by decide) (by decide) d_K_isSymbol_58
  · skip
    have k29 : ¬ s < 256 := fun h => h29 ((nI_ltI (by omega) (by omega)).mpr h)
    refine x_iload_n 33 hB d_K_isSymbol_32 rfl rfl ?_
    refine x_bipush (v := nI 28) 35 hB d_K_isSymbol_33 rfl (by decide) ?_
    refine x_icmp_eq 53 38 hB d_K_isSymbol_35 (by decide) rfl (fun h35 => ?_) (fun h35 => ?_)
    · skip
      have k35 : s % 32 = 28 := (nI_eq (by omega) (by omega)).mp h35
      refine x_iconst (v := nI 1) 54 hB d_K_isSymbol_53 rfl (by decide) ?_
      refine x_goto 58 hB d_K_isSymbol_54 (by decide) ?_
      exact x_zretP hB (by decide) (sVe (bT (by simp [isS, k35]))) (by decide) (by decide) d_K_isSymbol_58
    · skip
      have k35 : ¬ s % 32 = 28 := fun h => h35 ((nI_eq (by omega) (by omega)).mpr h)
      refine x_iload_n 39 hB d_K_isSymbol_38 rfl rfl ?_
      refine x_bipush (v := nI 7) 41 hB d_K_isSymbol_39 rfl (by decide) ?_
      refine x_icmp_ne 57 44 hB d_K_isSymbol_41 (by decide) rfl (fun h41 => ?_) (fun h41 => ?_)
      · skip
        have k41 : ¬ s / 32 % 8 = 7 := fun h => h41 ((nI_eq (by omega) (by omega)).mpr h)
        refine x_iconst (v := nI 0) 58 hB d_K_isSymbol_57 rfl (by decide) ?_
        exact x_zretP hB (by decide) (sVe (bF0 (by simp [isS, k29, k35, k41]))) (by decide) (by decide) d_K_isSymbol_58
      · skip
        have k41 : s / 32 % 8 = 7 := (nI_eq (by omega) (by omega)).mp h41
        refine x_iload_n 45 hB d_K_isSymbol_44 rfl rfl ?_
        refine x_ldc 47 hB d_K_isSymbol_45 rfl w_217 ?_
        refine x_callP (k' := 0) (n' := 0) (rest := []) (st' := [.int (bI (decide (xbit 1753219072 (s % 32) = nI 1)))]) 50 hB (x_pfS (av := [.int (nI (s % 32)), .int (1753219072)]) hB w_220 xHd_code w_8 w_218 w_219 nm_K_isAmong rfl d_K_isSymbol_47) (c_K_isAmong l E (s % 32) 1753219072) w_220 xHd_code w_8 [] rfl rfl ⟨by decide, by decide⟩ ⟨by decide, by decide⟩ rfl rfl (Nat.le_of_ble_eq_true rfl) d_K_isSymbol_47 rfl rfl ?_
        refine x_if_eq 57 53 hB d_K_isSymbol_50 (by decide) rfl (fun h50 => ?_) (fun h50 => ?_)
        · skip
          have k50 := (not_congr (amg7 (s % 32) (by omega))).mp (of_decide_eq_false (bI_0 h50))
          refine x_iconst (v := nI 0) 58 hB d_K_isSymbol_57 rfl (by decide) ?_
          exact x_zretP hB (by decide) (sVe (bF0 (by simp only [isS, decide_eq_false k29, decide_eq_false k35, decide_eq_true k41, decide_eq_false k50]; rfl))) (by decide) (by decide) d_K_isSymbol_58
        · skip
          have k50 := (amg7 (s % 32) (by omega)).mp (of_decide_eq_true (bI_1 h50))
          refine x_iconst (v := nI 1) 54 hB d_K_isSymbol_53 rfl (by decide) ?_
          refine x_goto 58 hB d_K_isSymbol_54 (by decide) ?_
          exact x_zretP hB (by decide) (sVe (bT (by simp only [isS, decide_eq_false k29, decide_eq_false k35, decide_eq_true k41, decide_eq_true k50]; rfl))) (by decide) (by decide) d_K_isSymbol_58
abbrev rm_K_sixOf : Room := { frames := 1, cells := 0, slots := 0, locals := 20 }
set_option maxHeartbeats 4000000 in
set_option maxRecDepth 100000 in
theorem c_K_sixOf (l : Launch) (E : xE) (s : Nat) (hs : s < 512) (plus : Bool) : xCp l E y_K_sixOf (.code y_K_sixOf prog_5_method_8_code 5 (some .int)) rm_K_sixOf [.int (nI (s)), .int (bI plus)] [] (.inl (some (.int (nI (sixF s plus))))) := by
  refine x_ofP (own := "LineCoder$TenCode") (mn := "sixOf") (lv := [(0, .int (nI (s))), (1, .int (bI plus))]) (plainFor_of_name (by decide)) rfl rfl (Nat.le_of_ble_eq_true rfl) rfl ?_
  intro p_ e_ s_ m_ ar_ be_ me_ c_ hB
  refine x_iload_n 1 hB d_K_sixOf_0 rfl rfl ?_
  refine x_bipush (v := nI 31) 3 hB d_K_sixOf_1 rfl (by decide) ?_
  refine x_iand 4 hB d_K_sixOf_3 rfl ?_
  refine x_top (v' := .int (nI (s % 32))) (congrArg Value.int (an31 hs)) ?_
  refine x_istore_n 5 hB d_K_sixOf_4 rfl (by decide) (lv' := [(2, .int (nI (s % 32))), (0, .int (nI (s))), (1, .int (bI plus))]) rfl ?_
  refine x_join 28 (fun _u : Unit => True) (fun _u : Unit => []) (fun _u : Unit => [(0, .int (nI (s))), (1, .int (bI plus)), (2, .int (nI (s % 32)))]) (fun _u : Unit => [.int (nI (six0 s))]) (fun _u hJ28 => ?_) (fun J28 => ?_)
  · skip
    refine x_istore_n 29 hB d_K_sixOf_28 rfl (by decide) (lv' := [(3, .int (nI (six0 s))), (0, .int (nI (s))), (1, .int (bI plus)), (2, .int (nI (s % 32)))]) rfl ?_
    refine x_join 48 (fun _u : Unit => True) (fun _u : Unit => []) (fun _u : Unit => [(0, .int (nI (s))), (1, .int (bI plus)), (2, .int (nI (s % 32))), (3, .int (nI (six0 s)))]) (fun _u : Unit => [.int (bI (hp6 (six0 s)))]) (fun _u hJ48 => ?_) (fun J48 => ?_)
    · skip
      refine x_istore 50 hB d_K_sixOf_48 rfl (by decide) (lv' := [(4, .int (bI (hp6 (six0 s)))), (0, .int (nI (s))), (1, .int (bI plus)), (2, .int (nI (s % 32))), (3, .int (nI (six0 s)))]) rfl ?_
      refine x_iload_n 51 hB d_K_sixOf_50 rfl rfl ?_
      refine x_if_eq 66 54 hB d_K_sixOf_51 (by decide) rfl (fun h51 => ?_) (fun h51 => ?_)
      · skip
        have k51 : plus = false := bI_0 h51
        refine x_iload_n 67 hB d_K_sixOf_66 rfl rfl ?_
        exact x_iretP hB (sVe (by simp [sixF, k51])) (by decide) (by decide) d_K_sixOf_67
      · skip
        have k51 : plus = true := bI_1 h51
        refine x_iload 56 hB d_K_sixOf_54 rfl rfl ?_
        refine x_if_eq 66 59 hB d_K_sixOf_56 (by decide) rfl (fun h56 => ?_) (fun h56 => ?_)
        · skip
          have k56 : hp6 (six0 s) = false := bI_0 h56
          refine x_iload_n 67 hB d_K_sixOf_66 rfl rfl ?_
          exact x_iretP hB (sVe (by simp [sixF, k56])) (by decide) (by decide) d_K_sixOf_67
        · skip
          have k56 : hp6 (six0 s) = true := bI_1 h56
          refine x_iload_n 60 hB d_K_sixOf_59 rfl rfl ?_
          refine x_bipush (v := nI 63) 62 hB d_K_sixOf_60 rfl (by decide) ?_
          refine x_ixor 63 hB d_K_sixOf_62 rfl ?_
          refine x_top (v' := .int (nI (63 - six0 s))) (congrArg Value.int (xr63 _ (six0_lt s))) ?_
          refine x_goto 67 hB d_K_sixOf_63 (by decide) ?_
          exact x_iretP hB (sVe (by simp [sixF, k51, k56])) (by decide) (by decide) d_K_sixOf_67
    refine x_iload_n 30 hB d_K_sixOf_29 rfl rfl ?_
    refine x_callP (k' := 0) (n' := 0) (rest := []) (st' := [.int (bcF (nI (six0 s)))]) 33 hB (x_pfS (av := [.int (nI (six0 s))]) hB w_210 xHd_code w_13 w_208 w_209 nm_JI_bitCount rfl d_K_sixOf_30) (c_JI_bitCount l E (nI (six0 s))) w_210 xHd_code w_13 [] rfl rfl ⟨by decide, by decide⟩ ⟨by decide, by decide⟩ rfl rfl (Nat.le_of_ble_eq_true rfl) d_K_sixOf_30 rfl rfl ?_
    refine x_top (v' := .int (nI (pc6 (six0 s)))) (congrArg Value.int (bc_small _ (six0_lt s))) ?_
    refine x_iconst (v := nI 3) 34 hB d_K_sixOf_33 rfl (by decide) ?_
    refine x_icmp_ne 43 37 hB d_K_sixOf_34 (by decide) rfl (fun h34 => ?_) (fun h34 => ?_)
    · skip
      have k34 : ¬ pc6 (six0 s) = 3 := fun h => h34 (by rw [h])
      refine x_iconst (v := nI 1) 44 hB d_K_sixOf_43 rfl (by decide) ?_
      refine x_top (v' := .int (bI (hp6 (six0 s)))) (congrArg Value.int (bT (by simp [hp6, k34]))) ?_
      refine x_goto 48 hB d_K_sixOf_44 (by decide) ?_
      refine x_lv (lv' := [(0, .int (nI (s))), (1, .int (bI plus)), (2, .int (nI (s % 32))), (3, .int (nI (six0 s)))]) [1, 2, 3, 0] rfl ?_
      exact J48 () trivial
    · skip
      have k34 : pc6 (six0 s) = 3 := (nI_eq (by have := pc6_le (six0 s); omega) (by omega)).mp h34
      refine x_iload_n 38 hB d_K_sixOf_37 rfl rfl ?_
      refine x_bipush (v := nI 56) 40 hB d_K_sixOf_38 rfl (by decide) ?_
      refine x_icmp_ne 47 43 hB d_K_sixOf_40 (by decide) rfl (fun h40 => ?_) (fun h40 => ?_)
      · skip
        have k40 : ¬ six0 s = 56 := fun h => h40 (by rw [h])
        refine x_iconst (v := nI 0) 48 hB d_K_sixOf_47 rfl (by decide) ?_
        refine x_top (v' := .int (bI (hp6 (six0 s)))) (congrArg Value.int (bF0 (by simp [hp6, k34, k40]))) ?_
        refine x_lv (lv' := [(0, .int (nI (s))), (1, .int (bI plus)), (2, .int (nI (s % 32))), (3, .int (nI (six0 s)))]) [1, 2, 3, 0] rfl ?_
        exact J48 () trivial
      · skip
        have k40 : six0 s = 56 := (nI_eq (by have := six0_lt s; omega) (by omega)).mp h40
        refine x_iconst (v := nI 1) 44 hB d_K_sixOf_43 rfl (by decide) ?_
        refine x_top (v' := .int (bI (hp6 (six0 s)))) (congrArg Value.int (bT (by simp [hp6, k40]))) ?_
        refine x_goto 48 hB d_K_sixOf_44 (by decide) ?_
        refine x_lv (lv' := [(0, .int (nI (s))), (1, .int (bI plus)), (2, .int (nI (s % 32))), (3, .int (nI (six0 s)))]) [1, 2, 3, 0] rfl ?_
        exact J48 () trivial
  refine x_iload_n 6 hB d_K_sixOf_5 rfl rfl ?_
  refine x_sipush (v := nI 256) 9 hB d_K_sixOf_6 rfl (by decide) ?_
  refine x_icmp_lt 23 12 hB d_K_sixOf_9 (by decide) rfl (fun h9 => ?_) (fun h9 => ?_)
  · skip
    have k9 : s < 256 := (nI_ltI (by omega) (by omega)).mp h9
    refine x_gets 26 hB hB.qz.2.2.1 w_206 d_K_sixOf_23 rfl ?_
    refine x_iload_n 27 hB d_K_sixOf_26 rfl rfl ?_
    refine x_ti 28 hB hB.qz.2.2.2.1 (by omega) (by decide) d_K_sixOf_27 rfl ?_
    refine x_top (v' := .int (nI (six0 s))) (congrArg Value.int ((sixT_N _ (by omega)).trans (by rw [six0, if_neg (by omega)]))) ?_
    refine x_lv (lv' := [(0, .int (nI (s))), (1, .int (bI plus)), (2, .int (nI (s % 32)))]) [1, 2, 0] rfl ?_
    exact J28 () trivial
  · skip
    have k9 : ¬ s < 256 := fun h => h9 ((nI_ltI (by omega) (by omega)).mpr h)
    refine x_iload_n 13 hB d_K_sixOf_12 rfl rfl ?_
    refine x_bipush (v := nI 28) 15 hB d_K_sixOf_13 rfl (by decide) ?_
    refine x_icmp_ne 23 18 hB d_K_sixOf_15 (by decide) rfl (fun h15 => ?_) (fun h15 => ?_)
    · skip
      have k15 : ¬ s % 32 = 28 := fun h => h15 ((nI_eq (by omega) (by omega)).mpr h)
      refine x_gets 26 hB hB.qz.2.2.1 w_206 d_K_sixOf_23 rfl ?_
      refine x_iload_n 27 hB d_K_sixOf_26 rfl rfl ?_
      refine x_ti 28 hB hB.qz.2.2.2.1 (by omega) (by decide) d_K_sixOf_27 rfl ?_
      refine x_top (v' := .int (nI (six0 s))) (congrArg Value.int ((sixT_N _ (by omega)).trans (by rw [six0, if_neg (fun h => k15 h.2)]))) ?_
      refine x_lv (lv' := [(0, .int (nI (s))), (1, .int (bI plus)), (2, .int (nI (s % 32)))]) [1, 2, 0] rfl ?_
      exact J28 () trivial
    · skip
      have k15 : s % 32 = 28 := (nI_eq (by omega) (by omega)).mp h15
      refine x_bipush (v := nI 15) 20 hB d_K_sixOf_18 rfl (by decide) ?_
      refine x_top (v' := .int (nI (six0 s))) (congrArg Value.int (by rw [six0, if_pos ⟨by omega, k15⟩])) ?_
      refine x_goto 28 hB d_K_sixOf_20 (by decide) ?_
      refine x_lv (lv' := [(0, .int (nI (s))), (1, .int (bI plus)), (2, .int (nI (s % 32)))]) [1, 2, 0] rfl ?_
      exact J28 () trivial
abbrev rm_K_fourOf : Room := { frames := 1, cells := 0, slots := 0, locals := 21 }
set_option maxHeartbeats 4000000 in
set_option maxRecDepth 100000 in
theorem c_K_fourOf (l : Launch) (E : xE) (s : Nat) (hs : s < 512) (plus : Bool) : xCp l E y_K_fourOf (.code y_K_fourOf prog_5_method_9_code 8 (some .int)) rm_K_fourOf [.int (nI (s)), .int (bI plus)] [] (.inl (some (.int (nI (fourF s plus))))) := by
  refine x_ofP (own := "LineCoder$TenCode") (mn := "fourOf") (lv := [(0, .int (nI (s))), (1, .int (bI plus))]) (plainFor_of_name (by decide)) rfl rfl (Nat.le_of_ble_eq_true rfl) rfl ?_
  intro p_ e_ s_ m_ ar_ be_ me_ c_ hB
  refine x_iload_n 1 hB d_K_fourOf_0 rfl rfl ?_
  refine x_iconst (v := nI 5) 2 hB d_K_fourOf_1 rfl (by decide) ?_
  refine x_ishr 3 hB d_K_fourOf_2 rfl ?_
  refine x_top (v' := .int (nI (s / 32))) (congrArg Value.int (sh5 hs)) ?_
  refine x_bipush (v := nI 7) 5 hB d_K_fourOf_3 rfl (by decide) ?_
  refine x_iand 6 hB d_K_fourOf_5 rfl ?_
  refine x_top (v' := .int (nI (s / 32 % 8))) (congrArg Value.int (an7 (by omega))) ?_
  refine x_istore_n 7 hB d_K_fourOf_6 rfl (by decide) (lv' := [(2, .int (nI (s / 32 % 8))), (0, .int (nI (s))), (1, .int (bI plus))]) rfl ?_
  refine x_join 19 (fun _u : Unit => True) (fun _u : Unit => []) (fun _u : Unit => [(0, .int (nI (s))), (1, .int (bI plus)), (2, .int (nI (s / 32 % 8)))]) (fun _u : Unit => [.int (bI (decide (256 ≤ s)))]) (fun _u hJ19 => ?_) (fun J19 => ?_)
  · skip
    refine x_istore_n 20 hB d_K_fourOf_19 rfl (by decide) (lv' := [(3, .int (bI (decide (256 ≤ s)))), (0, .int (nI (s))), (1, .int (bI plus)), (2, .int (nI (s / 32 % 8)))]) rfl ?_
    refine x_join 32 (fun _u : Unit => True) (fun _u : Unit => []) (fun _u : Unit => [(0, .int (nI (s))), (1, .int (bI plus)), (2, .int (nI (s / 32 % 8))), (3, .int (bI (decide (256 ≤ s))))]) (fun _u : Unit => [.int (othS plus)]) (fun _u hJ32 => ?_) (fun J32 => ?_)
    · skip
      refine x_istore 34 hB d_K_fourOf_32 rfl (by decide) (lv' := [(4, .int (othS plus)), (0, .int (nI (s))), (1, .int (bI plus)), (2, .int (nI (s / 32 % 8))), (3, .int (bI (decide (256 ≤ s))))]) rfl ?_
      refine x_gets 37 hB hB.qz.2.2.2.2.1 w_231 d_K_fourOf_34 rfl ?_
      refine x_iload_n 38 hB d_K_fourOf_37 rfl rfl ?_
      refine x_ti 39 hB hB.qz.2.2.2.2.2 (by omega) (by decide) d_K_fourOf_38 rfl ?_
      refine x_top (v' := .int (nI (fourN (s / 32 % 8)))) (congrArg Value.int (fourT_N _ (by omega))) ?_
      refine x_istore 41 hB d_K_fourOf_39 rfl (by decide) (lv' := [(5, .int (nI (fourN (s / 32 % 8)))), (4, .int (othS plus)), (0, .int (nI (s))), (1, .int (bI plus)), (2, .int (nI (s / 32 % 8))), (3, .int (bI (decide (256 ≤ s))))]) rfl ?_
      refine x_join 67 (fun _u : Unit => True) (fun _u : Unit => []) (fun _u : Unit => [(0, .int (nI (s))), (1, .int (bI plus)), (2, .int (nI (s / 32 % 8))), (3, .int (bI (decide (256 ≤ s)))), (4, .int (othS plus)), (5, .int (nI (four0 s plus)))]) (fun _u : Unit => []) (fun _u hJ67 => ?_) (fun J67 => ?_)
      · skip
        refine x_join 88 (fun _u : Unit => True) (fun _u : Unit => []) (fun _u : Unit => [(0, .int (nI (s))), (1, .int (bI plus)), (2, .int (nI (s / 32 % 8))), (3, .int (bI (decide (256 ≤ s)))), (4, .int (othS plus)), (5, .int (nI (four0 s plus)))]) (fun _u : Unit => [.int (bI (hp4 (four0 s plus)))]) (fun _u hJ88 => ?_) (fun J88 => ?_)
        · skip
          refine x_istore 90 hB d_K_fourOf_88 rfl (by decide) (lv' := [(6, .int (bI (hp4 (four0 s plus)))), (0, .int (nI (s))), (1, .int (bI plus)), (2, .int (nI (s / 32 % 8))), (3, .int (bI (decide (256 ≤ s)))), (4, .int (othS plus)), (5, .int (nI (four0 s plus)))]) rfl ?_
          refine x_join 112 (fun _u : Unit => True) (fun _u : Unit => []) (fun _u : Unit => [(0, .int (nI (s))), (1, .int (bI plus)), (2, .int (nI (s / 32 % 8))), (3, .int (bI (decide (256 ≤ s)))), (4, .int (othS plus)), (5, .int (nI (four0 s plus))), (6, .int (bI (hp4 (four0 s plus))))]) (fun _u : Unit => [.int (bI (trn s plus))]) (fun _u hJ112 => ?_) (fun J112 => ?_)
          · skip
            refine x_istore 114 hB d_K_fourOf_112 rfl (by decide) (lv' := [(7, .int (bI (trn s plus))), (0, .int (nI (s))), (1, .int (bI plus)), (2, .int (nI (s / 32 % 8))), (3, .int (bI (decide (256 ≤ s)))), (4, .int (othS plus)), (5, .int (nI (four0 s plus))), (6, .int (bI (hp4 (four0 s plus))))]) rfl ?_
            refine x_iload 116 hB d_K_fourOf_114 rfl rfl ?_
            refine x_if_eq 127 119 hB d_K_fourOf_116 (by decide) rfl (fun h116 => ?_) (fun h116 => ?_)
            · skip
              have k116 : trn s plus = false := bI_0 h116
              refine x_iload 129 hB d_K_fourOf_127 rfl rfl ?_
              exact x_iretP hB (sVe (by simp [fourF, k116])) (by decide) (by decide) d_K_fourOf_129
            · skip
              have k116 : trn s plus = true := bI_1 h116
              refine x_iload 121 hB d_K_fourOf_119 rfl rfl ?_
              refine x_bipush (v := nI 15) 123 hB d_K_fourOf_121 rfl (by decide) ?_
              refine x_ixor 124 hB d_K_fourOf_123 rfl ?_
              refine x_top (v' := .int (nI (15 - four0 s plus))) (congrArg Value.int (xr15 _ (four0_lt s plus))) ?_
              refine x_goto 129 hB d_K_fourOf_124 (by decide) ?_
              exact x_iretP hB (sVe (by simp [fourF, k116])) (by decide) (by decide) d_K_fourOf_129
          refine x_iload 92 hB d_K_fourOf_90 rfl rfl ?_
          refine x_if_eq 99 95 hB d_K_fourOf_92 (by decide) rfl (fun h92 => ?_) (fun h92 => ?_)
          · skip
            have k92 : hp4 (four0 s plus) = false := bI_0 h92
            refine x_iload_n 100 hB d_K_fourOf_99 rfl rfl ?_
            refine x_if_eq 111 103 hB d_K_fourOf_100 (by decide) rfl (fun h100 => ?_) (fun h100 => ?_)
            · skip
              have k100 : ¬ 256 ≤ s := of_decide_eq_false (bI_0 h100)
              refine x_iconst (v := nI 0) 112 hB d_K_fourOf_111 rfl (by decide) ?_
              refine x_top (v' := .int (bI (trn s plus))) (congrArg Value.int (bF0 (by rw [trn, if_neg (by rw [k92]; decide), decide_eq_false k100]; rfl))) ?_
              refine x_lv (lv' := [(0, .int (nI (s))), (1, .int (bI plus)), (2, .int (nI (s / 32 % 8))), (3, .int (bI (decide (256 ≤ s)))), (4, .int (othS plus)), (5, .int (nI (four0 s plus))), (6, .int (bI (hp4 (four0 s plus))))]) [1, 2, 3, 4, 5, 6, 0] rfl ?_
              exact J112 () trivial
            · skip
              have k100 : 256 ≤ s := of_decide_eq_true (bI_1 h100)
              refine x_iload_n 104 hB d_K_fourOf_103 rfl rfl ?_
              refine x_if_ne 111 107 hB d_K_fourOf_104 (by decide) rfl (fun h104 => ?_) (fun h104 => ?_)
              · skip
                have k104 : plus = true := bI_1 h104
                refine x_iconst (v := nI 0) 112 hB d_K_fourOf_111 rfl (by decide) ?_
                refine x_top (v' := .int (bI (trn s plus))) (congrArg Value.int (bF0 (by rw [trn, if_neg (by rw [k92]; decide), k104]; simp))) ?_
                refine x_lv (lv' := [(0, .int (nI (s))), (1, .int (bI plus)), (2, .int (nI (s / 32 % 8))), (3, .int (bI (decide (256 ≤ s)))), (4, .int (othS plus)), (5, .int (nI (four0 s plus))), (6, .int (bI (hp4 (four0 s plus))))]) [1, 2, 3, 4, 5, 6, 0] rfl ?_
                exact J112 () trivial
              · skip
                have k104 : plus = false := bI_0 h104
                refine x_iconst (v := nI 1) 108 hB d_K_fourOf_107 rfl (by decide) ?_
                refine x_top (v' := .int (bI (trn s plus))) (congrArg Value.int (bT (by rw [trn, if_neg (by rw [k92]; decide), decide_eq_true k100, k104]; rfl))) ?_
                refine x_goto 112 hB d_K_fourOf_108 (by decide) ?_
                refine x_lv (lv' := [(0, .int (nI (s))), (1, .int (bI plus)), (2, .int (nI (s / 32 % 8))), (3, .int (bI (decide (256 ≤ s)))), (4, .int (othS plus)), (5, .int (nI (four0 s plus))), (6, .int (bI (hp4 (four0 s plus))))]) [1, 2, 3, 4, 5, 6, 0] rfl ?_
                exact J112 () trivial
          · skip
            have k92 : hp4 (four0 s plus) = true := bI_1 h92
            refine x_iload_n 96 hB d_K_fourOf_95 rfl rfl ?_
            refine x_top (v' := .int (bI (trn s plus))) (congrArg Value.int (by rw [trn, if_pos k92])) ?_
            refine x_goto 112 hB d_K_fourOf_96 (by decide) ?_
            refine x_lv (lv' := [(0, .int (nI (s))), (1, .int (bI plus)), (2, .int (nI (s / 32 % 8))), (3, .int (bI (decide (256 ≤ s)))), (4, .int (othS plus)), (5, .int (nI (four0 s plus))), (6, .int (bI (hp4 (four0 s plus))))]) [1, 2, 3, 4, 5, 6, 0] rfl ?_
            exact J112 () trivial
        refine x_iload 69 hB d_K_fourOf_67 rfl rfl ?_
        refine x_callP (k' := 0) (n' := 0) (rest := []) (st' := [.int (bcF (nI (four0 s plus)))]) 72 hB (x_pfS (av := [.int (nI (four0 s plus))]) hB w_210 xHd_code w_13 w_208 w_209 nm_JI_bitCount rfl d_K_fourOf_69) (c_JI_bitCount l E (nI (four0 s plus))) w_210 xHd_code w_13 [] rfl rfl ⟨by decide, by decide⟩ ⟨by decide, by decide⟩ rfl rfl (Nat.le_of_ble_eq_true rfl) d_K_fourOf_69 rfl rfl ?_
        refine x_top (v' := .int (nI (pc6 (four0 s plus)))) (congrArg Value.int (bc_small _ (by have := four0_lt s plus; omega))) ?_
        refine x_iconst (v := nI 2) 73 hB d_K_fourOf_72 rfl (by decide) ?_
        refine x_icmp_ne 83 76 hB d_K_fourOf_73 (by decide) rfl (fun h73 => ?_) (fun h73 => ?_)
        · skip
          have k73 : ¬ pc6 (four0 s plus) = 2 := fun h => h73 (by rw [h])
          refine x_iconst (v := nI 1) 84 hB d_K_fourOf_83 rfl (by decide) ?_
          refine x_top (v' := .int (bI (hp4 (four0 s plus)))) (congrArg Value.int (bT (by simp [hp4, k73]))) ?_
          refine x_goto 88 hB d_K_fourOf_84 (by decide) ?_
          exact J88 () trivial
        · skip
          have k73 : pc6 (four0 s plus) = 2 := (nI_eq (by have := pc6_le (four0 s plus); omega) (by omega)).mp h73
          refine x_iload 78 hB d_K_fourOf_76 rfl rfl ?_
          refine x_bipush (v := nI 12) 80 hB d_K_fourOf_78 rfl (by decide) ?_
          refine x_icmp_ne 87 83 hB d_K_fourOf_80 (by decide) rfl (fun h80 => ?_) (fun h80 => ?_)
          · skip
            have k80 : ¬ four0 s plus = 12 := fun h => h80 (by rw [h])
            refine x_iconst (v := nI 0) 88 hB d_K_fourOf_87 rfl (by decide) ?_
            refine x_top (v' := .int (bI (hp4 (four0 s plus)))) (congrArg Value.int (bF0 (by simp [hp4, k73, k80]))) ?_
            exact J88 () trivial
          · skip
            have k80 : four0 s plus = 12 := (nI_eq (by have := four0_lt s plus; omega) (by omega)).mp h80
            refine x_iconst (v := nI 1) 84 hB d_K_fourOf_83 rfl (by decide) ?_
            refine x_top (v' := .int (bI (hp4 (four0 s plus)))) (congrArg Value.int (bT (by simp [hp4, k80]))) ?_
            refine x_goto 88 hB d_K_fourOf_84 (by decide) ?_
            exact J88 () trivial
      refine x_iload_n 42 hB d_K_fourOf_41 rfl rfl ?_
      refine x_bipush (v := nI 7) 44 hB d_K_fourOf_42 rfl (by decide) ?_
      refine x_icmp_ne 67 47 hB d_K_fourOf_44 (by decide) rfl (fun h44 => ?_) (fun h44 => ?_)
      · skip
        have k44 : ¬ s / 32 % 8 = 7 := fun h => h44 (by rw [h])
        have e67 : fourN (s / 32 % 8) = four0 s plus := by rw [four0, if_neg (fun h => k44 h.1)]
        refine x_lve (lv' := [(5, .int (nI (four0 s plus))), (4, .int (othS plus)), (0, .int (nI (s))), (1, .int (bI plus)), (2, .int (nI (s / 32 % 8))), (3, .int (bI (decide (256 ≤ s))))]) (by rw [e67]) ?_
        refine x_lv (lv' := [(0, .int (nI (s))), (1, .int (bI plus)), (2, .int (nI (s / 32 % 8))), (3, .int (bI (decide (256 ≤ s)))), (4, .int (othS plus)), (5, .int (nI (four0 s plus)))]) [2, 3, 4, 5, 1, 0] rfl ?_
        exact J67 () trivial
      · skip
        have k44 : s / 32 % 8 = 7 := (nI_eq (by omega) (by omega)).mp h44
        refine x_iload_n 48 hB d_K_fourOf_47 rfl rfl ?_
        refine x_if_ne 63 51 hB d_K_fourOf_48 (by decide) rfl (fun h48 => ?_) (fun h48 => ?_)
        · skip
          have k48 : 256 ≤ s := of_decide_eq_true (bI_1 h48)
          have e63 : 7 = four0 s plus := by rw [four0, if_pos ⟨k44, Or.inl k48⟩]
          refine x_bipush (v := nI 7) 65 hB d_K_fourOf_63 rfl (by decide) ?_
          refine x_top (v' := .int (nI (four0 s plus))) (congrArg Value.int (congrArg nI e63)) ?_
          refine x_istore 67 hB d_K_fourOf_65 rfl (by decide) (lv' := [(5, .int (nI (four0 s plus))), (4, .int (othS plus)), (0, .int (nI (s))), (1, .int (bI plus)), (2, .int (nI (s / 32 % 8))), (3, .int (bI (decide (256 ≤ s))))]) rfl ?_
          refine x_lv (lv' := [(0, .int (nI (s))), (1, .int (bI plus)), (2, .int (nI (s / 32 % 8))), (3, .int (bI (decide (256 ≤ s)))), (4, .int (othS plus)), (5, .int (nI (four0 s plus)))]) [2, 3, 4, 5, 1, 0] rfl ?_
          exact J67 () trivial
        · skip
          have k48 : ¬ 256 ≤ s := of_decide_eq_false (bI_0 h48)
          refine x_iload_n 52 hB d_K_fourOf_51 rfl rfl ?_
          refine x_bipush (v := nI 31) 54 hB d_K_fourOf_52 rfl (by decide) ?_
          refine x_iand 55 hB d_K_fourOf_54 rfl ?_
          refine x_top (v' := .int (nI (s % 32))) (congrArg Value.int (an31 hs)) ?_
          refine x_iload 57 hB d_K_fourOf_55 rfl rfl ?_
          refine x_callP (k' := 0) (n' := 0) (rest := []) (st' := [.int (bI (decide (xbit (othS plus) (s % 32) = nI 1)))]) 60 hB (x_pfS (av := [.int (nI (s % 32)), .int (othS plus)]) hB w_220 xHd_code w_8 w_218 w_219 nm_K_isAmong rfl d_K_fourOf_57) (c_K_isAmong l E (s % 32) (othS plus)) w_220 xHd_code w_8 [] rfl rfl ⟨by decide, by decide⟩ ⟨by decide, by decide⟩ rfl rfl (Nat.le_of_ble_eq_true rfl) d_K_fourOf_57 rfl rfl ?_
          refine x_top (v' := .int (bI (oth s plus))) (congrArg Value.int (oth_e s plus)) ?_
          refine x_if_eq 67 63 hB d_K_fourOf_60 (by decide) rfl (fun h60 => ?_) (fun h60 => ?_)
          · skip
            have k60 : oth s plus = false := bI_0 h60
            have e67 : fourN (s / 32 % 8) = four0 s plus := by rw [four0, if_neg (fun h => h.2.elim k48 (fun h => by rw [k60] at h; cases h))]
            refine x_lve (lv' := [(5, .int (nI (four0 s plus))), (4, .int (othS plus)), (0, .int (nI (s))), (1, .int (bI plus)), (2, .int (nI (s / 32 % 8))), (3, .int (bI (decide (256 ≤ s))))]) (by rw [e67]) ?_
            refine x_lv (lv' := [(0, .int (nI (s))), (1, .int (bI plus)), (2, .int (nI (s / 32 % 8))), (3, .int (bI (decide (256 ≤ s)))), (4, .int (othS plus)), (5, .int (nI (four0 s plus)))]) [2, 3, 4, 5, 1, 0] rfl ?_
            exact J67 () trivial
          · skip
            have k60 : oth s plus = true := bI_1 h60
            have e63 : 7 = four0 s plus := by rw [four0, if_pos ⟨k44, Or.inr k60⟩]
            refine x_bipush (v := nI 7) 65 hB d_K_fourOf_63 rfl (by decide) ?_
            refine x_top (v' := .int (nI (four0 s plus))) (congrArg Value.int (congrArg nI e63)) ?_
            refine x_istore 67 hB d_K_fourOf_65 rfl (by decide) (lv' := [(5, .int (nI (four0 s plus))), (4, .int (othS plus)), (0, .int (nI (s))), (1, .int (bI plus)), (2, .int (nI (s / 32 % 8))), (3, .int (bI (decide (256 ≤ s))))]) rfl ?_
            refine x_lv (lv' := [(0, .int (nI (s))), (1, .int (bI plus)), (2, .int (nI (s / 32 % 8))), (3, .int (bI (decide (256 ≤ s)))), (4, .int (othS plus)), (5, .int (nI (four0 s plus)))]) [2, 3, 4, 5, 1, 0] rfl ?_
            exact J67 () trivial
    refine x_iload_n 21 hB d_K_fourOf_20 rfl rfl ?_
    refine x_if_eq 30 24 hB d_K_fourOf_21 (by decide) rfl (fun h21 => ?_) (fun h21 => ?_)
    · skip
      have k21 : plus = false := bI_0 h21
      refine x_ldc 32 hB d_K_fourOf_30 rfl w_230 ?_
      refine x_top (v' := .int (othS plus)) (congrArg Value.int (by rw [k21]; rfl)) ?_
      refine x_lv (lv' := [(0, .int (nI (s))), (1, .int (bI plus)), (2, .int (nI (s / 32 % 8))), (3, .int (bI (decide (256 ≤ s))))]) [1, 2, 3, 0] rfl ?_
      exact J32 () trivial
    · skip
      have k21 : plus = true := bI_1 h21
      refine x_sipush (v := nI 26624) 27 hB d_K_fourOf_24 rfl (by decide) ?_
      refine x_top (v' := .int (othS plus)) (congrArg Value.int (by rw [k21]; rfl)) ?_
      refine x_goto 32 hB d_K_fourOf_27 (by decide) ?_
      refine x_lv (lv' := [(0, .int (nI (s))), (1, .int (bI plus)), (2, .int (nI (s / 32 % 8))), (3, .int (bI (decide (256 ≤ s))))]) [1, 2, 3, 0] rfl ?_
      exact J32 () trivial
  refine x_iload_n 8 hB d_K_fourOf_7 rfl rfl ?_
  refine x_sipush (v := nI 256) 11 hB d_K_fourOf_8 rfl (by decide) ?_
  refine x_icmp_lt 18 14 hB d_K_fourOf_11 (by decide) rfl (fun h11 => ?_) (fun h11 => ?_)
  · skip
    have k11 : s < 256 := (nI_ltI (by omega) (by omega)).mp h11
    refine x_iconst (v := nI 0) 19 hB d_K_fourOf_18 rfl (by decide) ?_
    refine x_top (v' := .int (bI (decide (256 ≤ s)))) (congrArg Value.int (bF0 (decide_eq_false (by omega)))) ?_
    refine x_lv (lv' := [(0, .int (nI (s))), (1, .int (bI plus)), (2, .int (nI (s / 32 % 8)))]) [1, 2, 0] rfl ?_
    exact J19 () trivial
  · skip
    have k11 : ¬ s < 256 := fun h => h11 ((nI_ltI (by omega) (by omega)).mpr h)
    refine x_iconst (v := nI 1) 15 hB d_K_fourOf_14 rfl (by decide) ?_
    refine x_top (v' := .int (bI (decide (256 ≤ s)))) (congrArg Value.int (bT (decide_eq_true (by omega)))) ?_
    refine x_goto 19 hB d_K_fourOf_15 (by decide) ?_
    refine x_lv (lv' := [(0, .int (nI (s))), (1, .int (bI plus)), (2, .int (nI (s / 32 % 8)))]) [1, 2, 0] rfl ?_
    exact J19 () trivial
abbrev rm_K_plusBehindSix : Room := { frames := 1, cells := 0, slots := 0, locals := 20 }
set_option maxHeartbeats 4000000 in
set_option maxRecDepth 100000 in
theorem c_K_plusBehindSix (l : Launch) (E : xE) (v : Nat) (hv : v < 64) (plus : Bool) : xCp l E y_K_plusBehindSix (.code y_K_plusBehindSix prog_5_method_10_code 3 (some .boolean)) rm_K_plusBehindSix [.int (nI (v)), .int (bI plus)] [] (.inl (some (.int (bI (pb6 v plus))))) := by
  refine x_ofP (own := "LineCoder$TenCode") (mn := "plusBehindSix") (lv := [(0, .int (nI (v))), (1, .int (bI plus))]) (plainFor_of_name (by decide)) rfl rfl (Nat.le_of_ble_eq_true rfl) rfl ?_
  intro p_ e_ s_ m_ ar_ be_ me_ c_ hB
  refine x_iload_n 1 hB d_K_plusBehindSix_0 rfl rfl ?_
  refine x_callP (k' := 0) (n' := 0) (rest := []) (st' := [.int (bcF (nI v))]) 4 hB (x_pfS (av := [.int (nI (v))]) hB w_210 xHd_code w_13 w_208 w_209 nm_JI_bitCount rfl d_K_plusBehindSix_1) (c_JI_bitCount l E (nI v)) w_210 xHd_code w_13 [] rfl rfl ⟨by decide, by decide⟩ ⟨by decide, by decide⟩ rfl rfl (Nat.le_of_ble_eq_true rfl) d_K_plusBehindSix_1 rfl rfl ?_
  refine x_top (v' := .int (nI (pc6 v))) (congrArg Value.int (bc_small _ hv)) ?_
  have hle := pc6_le v
  refine x_istore_n 5 hB d_K_plusBehindSix_4 rfl (by decide) (lv' := [(2, .int (nI (pc6 v))), (0, .int (nI (v))), (1, .int (bI plus))]) rfl ?_
  refine x_iload_n 6 hB d_K_plusBehindSix_5 rfl rfl ?_
  refine x_iconst (v := nI 3) 7 hB d_K_plusBehindSix_6 rfl (by decide) ?_
  refine x_icmp_eq 21 10 hB d_K_plusBehindSix_7 (by decide) rfl (fun h7 => ?_) (fun h7 => ?_)
  · skip
    have k7 : pc6 v = 3 := (nI_eq (by omega) (by omega)).mp h7
    refine x_iload_n 22 hB d_K_plusBehindSix_21 rfl rfl ?_
    refine x_bipush (v := nI 7) 24 hB d_K_plusBehindSix_22 rfl (by decide) ?_
    refine x_icmp_eq 37 27 hB d_K_plusBehindSix_24 (by decide) rfl (fun h24 => ?_) (fun h24 => ?_)
    · skip
      have k24 : v = 7 := (nI_eq (by omega) (by omega)).mp h24
      refine x_iconst (v := nI 1) 38 hB d_K_plusBehindSix_37 rfl (by decide) ?_
      refine x_goto 42 hB d_K_plusBehindSix_38 (by decide) ?_
      exact x_zretP hB (by decide) (sVe (bT (by rw [pb6, if_neg (fun h => h k7), decide_eq_true k24]; rfl))) (by decide) (by decide) d_K_plusBehindSix_42
    · skip
      have k24 : ¬ v = 7 := fun h => h24 ((nI_eq (by omega) (by omega)).mpr h)
      refine x_iload_n 28 hB d_K_plusBehindSix_27 rfl rfl ?_
      refine x_bipush (v := nI 56) 30 hB d_K_plusBehindSix_28 rfl (by decide) ?_
      refine x_icmp_eq 41 33 hB d_K_plusBehindSix_30 (by decide) rfl (fun h30 => ?_) (fun h30 => ?_)
      · skip
        have k30 : v = 56 := (nI_eq (by omega) (by omega)).mp h30
        refine x_iconst (v := nI 0) 42 hB d_K_plusBehindSix_41 rfl (by decide) ?_
        exact x_zretP hB (by decide) (sVe (bF0 (by rw [pb6, if_neg (fun h => h k7), decide_eq_false k24, decide_eq_false (fun h => h k30)]; rfl))) (by decide) (by decide) d_K_plusBehindSix_42
      · skip
        have k30 : ¬ v = 56 := fun h => h30 ((nI_eq (by omega) (by omega)).mpr h)
        refine x_iload_n 34 hB d_K_plusBehindSix_33 rfl rfl ?_
        refine x_if_eq 41 37 hB d_K_plusBehindSix_34 (by decide) rfl (fun h34 => ?_) (fun h34 => ?_)
        · skip
          have k34 : plus = false := bI_0 h34
          refine x_iconst (v := nI 0) 42 hB d_K_plusBehindSix_41 rfl (by decide) ?_
          exact x_zretP hB (by decide) (sVe (bF0 (by rw [pb6, if_neg (fun h => h k7), decide_eq_false k24, decide_eq_true k30, k34]; rfl))) (by decide) (by decide) d_K_plusBehindSix_42
        · skip
          have k34 : plus = true := bI_1 h34
          refine x_iconst (v := nI 1) 38 hB d_K_plusBehindSix_37 rfl (by decide) ?_
          refine x_goto 42 hB d_K_plusBehindSix_38 (by decide) ?_
          exact x_zretP hB (by decide) (sVe (bT (by rw [pb6, if_neg (fun h => h k7), decide_eq_false k24, decide_eq_true k30, k34]; rfl))) (by decide) (by decide) d_K_plusBehindSix_42
  · skip
    have k7 : ¬ pc6 v = 3 := fun h => h7 ((nI_eq (by omega) (by omega)).mpr h)
    refine x_iload_n 11 hB d_K_plusBehindSix_10 rfl rfl ?_
    refine x_iconst (v := nI 3) 12 hB d_K_plusBehindSix_11 rfl (by decide) ?_
    refine x_icmp_le 19 15 hB d_K_plusBehindSix_12 (by decide) rfl (fun h12 => ?_) (fun h12 => ?_)
    · skip
      have k12 : pc6 v ≤ 3 := (nI_leI (by omega) (by omega)).mp h12
      refine x_iconst (v := nI 0) 20 hB d_K_plusBehindSix_19 rfl (by decide) ?_
      exact x_zretP hB (by decide) (sVe (bF0 (by simp [pb6, k7]; omega))) (by decide) (by decide) d_K_plusBehindSix_20
    · skip
      have k12 : ¬ pc6 v ≤ 3 := fun h => h12 ((nI_leI (by omega) (by omega)).mpr h)
      refine x_iconst (v := nI 1) 16 hB d_K_plusBehindSix_15 rfl (by decide) ?_
      refine x_goto 20 hB d_K_plusBehindSix_16 (by decide) ?_
      exact x_zretP hB (by decide) (sVe (bT (by simp [pb6, k7]; omega))) (by decide) (by decide) d_K_plusBehindSix_20
abbrev rm_K_plusBehindFour : Room := { frames := 1, cells := 0, slots := 0, locals := 20 }
set_option maxHeartbeats 4000000 in
set_option maxRecDepth 100000 in
theorem c_K_plusBehindFour (l : Launch) (E : xE) (v : Nat) (hv : v < 64) (plus : Bool) : xCp l E y_K_plusBehindFour (.code y_K_plusBehindFour prog_5_method_11_code 3 (some .boolean)) rm_K_plusBehindFour [.int (nI (v)), .int (bI plus)] [] (.inl (some (.int (bI (pb4 v plus))))) := by
  refine x_ofP (own := "LineCoder$TenCode") (mn := "plusBehindFour") (lv := [(0, .int (nI (v))), (1, .int (bI plus))]) (plainFor_of_name (by decide)) rfl rfl (Nat.le_of_ble_eq_true rfl) rfl ?_
  intro p_ e_ s_ m_ ar_ be_ me_ c_ hB
  refine x_iload_n 1 hB d_K_plusBehindFour_0 rfl rfl ?_
  refine x_callP (k' := 0) (n' := 0) (rest := []) (st' := [.int (bcF (nI v))]) 4 hB (x_pfS (av := [.int (nI (v))]) hB w_210 xHd_code w_13 w_208 w_209 nm_JI_bitCount rfl d_K_plusBehindFour_1) (c_JI_bitCount l E (nI v)) w_210 xHd_code w_13 [] rfl rfl ⟨by decide, by decide⟩ ⟨by decide, by decide⟩ rfl rfl (Nat.le_of_ble_eq_true rfl) d_K_plusBehindFour_1 rfl rfl ?_
  refine x_top (v' := .int (nI (pc6 v))) (congrArg Value.int (bc_small _ hv)) ?_
  have hle := pc6_le v
  refine x_istore_n 5 hB d_K_plusBehindFour_4 rfl (by decide) (lv' := [(2, .int (nI (pc6 v))), (0, .int (nI (v))), (1, .int (bI plus))]) rfl ?_
  refine x_iload_n 6 hB d_K_plusBehindFour_5 rfl rfl ?_
  refine x_iconst (v := nI 2) 7 hB d_K_plusBehindFour_6 rfl (by decide) ?_
  refine x_icmp_eq 21 10 hB d_K_plusBehindFour_7 (by decide) rfl (fun h7 => ?_) (fun h7 => ?_)
  · skip
    have k7 : pc6 v = 2 := (nI_eq (by omega) (by omega)).mp h7
    refine x_iload_n 22 hB d_K_plusBehindFour_21 rfl rfl ?_
    refine x_iconst (v := nI 3) 23 hB d_K_plusBehindFour_22 rfl (by decide) ?_
    refine x_icmp_eq 36 26 hB d_K_plusBehindFour_23 (by decide) rfl (fun h23 => ?_) (fun h23 => ?_)
    · skip
      have k23 : v = 3 := (nI_eq (by omega) (by omega)).mp h23
      refine x_iconst (v := nI 1) 37 hB d_K_plusBehindFour_36 rfl (by decide) ?_
      refine x_goto 41 hB d_K_plusBehindFour_37 (by decide) ?_
      exact x_zretP hB (by decide) (sVe (bT (by rw [pb4, if_neg (fun h => h k7), decide_eq_true k23]; rfl))) (by decide) (by decide) d_K_plusBehindFour_41
    · skip
      have k23 : ¬ v = 3 := fun h => h23 ((nI_eq (by omega) (by omega)).mpr h)
      refine x_iload_n 27 hB d_K_plusBehindFour_26 rfl rfl ?_
      refine x_bipush (v := nI 12) 29 hB d_K_plusBehindFour_27 rfl (by decide) ?_
      refine x_icmp_eq 40 32 hB d_K_plusBehindFour_29 (by decide) rfl (fun h29 => ?_) (fun h29 => ?_)
      · skip
        have k29 : v = 12 := (nI_eq (by omega) (by omega)).mp h29
        refine x_iconst (v := nI 0) 41 hB d_K_plusBehindFour_40 rfl (by decide) ?_
        exact x_zretP hB (by decide) (sVe (bF0 (by rw [pb4, if_neg (fun h => h k7), decide_eq_false k23, decide_eq_false (fun h => h k29)]; rfl))) (by decide) (by decide) d_K_plusBehindFour_41
      · skip
        have k29 : ¬ v = 12 := fun h => h29 ((nI_eq (by omega) (by omega)).mpr h)
        refine x_iload_n 33 hB d_K_plusBehindFour_32 rfl rfl ?_
        refine x_if_eq 40 36 hB d_K_plusBehindFour_33 (by decide) rfl (fun h33 => ?_) (fun h33 => ?_)
        · skip
          have k33 : plus = false := bI_0 h33
          refine x_iconst (v := nI 0) 41 hB d_K_plusBehindFour_40 rfl (by decide) ?_
          exact x_zretP hB (by decide) (sVe (bF0 (by rw [pb4, if_neg (fun h => h k7), decide_eq_false k23, decide_eq_true k29, k33]; rfl))) (by decide) (by decide) d_K_plusBehindFour_41
        · skip
          have k33 : plus = true := bI_1 h33
          refine x_iconst (v := nI 1) 37 hB d_K_plusBehindFour_36 rfl (by decide) ?_
          refine x_goto 41 hB d_K_plusBehindFour_37 (by decide) ?_
          exact x_zretP hB (by decide) (sVe (bT (by rw [pb4, if_neg (fun h => h k7), decide_eq_false k23, decide_eq_true k29, k33]; rfl))) (by decide) (by decide) d_K_plusBehindFour_41
  · skip
    have k7 : ¬ pc6 v = 2 := fun h => h7 ((nI_eq (by omega) (by omega)).mpr h)
    refine x_iload_n 11 hB d_K_plusBehindFour_10 rfl rfl ?_
    refine x_iconst (v := nI 2) 12 hB d_K_plusBehindFour_11 rfl (by decide) ?_
    refine x_icmp_le 19 15 hB d_K_plusBehindFour_12 (by decide) rfl (fun h12 => ?_) (fun h12 => ?_)
    · skip
      have k12 : pc6 v ≤ 2 := (nI_leI (by omega) (by omega)).mp h12
      refine x_iconst (v := nI 0) 20 hB d_K_plusBehindFour_19 rfl (by decide) ?_
      exact x_zretP hB (by decide) (sVe (bF0 (by simp [pb4, k7]; omega))) (by decide) (by decide) d_K_plusBehindFour_20
    · skip
      have k12 : ¬ pc6 v ≤ 2 := fun h => h12 ((nI_leI (by omega) (by omega)).mpr h)
      refine x_iconst (v := nI 1) 16 hB d_K_plusBehindFour_15 rfl (by decide) ?_
      refine x_goto 20 hB d_K_plusBehindFour_16 (by decide) ?_
      exact x_zretP hB (by decide) (sVe (bT (by simp [pb4, k7]; omega))) (by decide) (by decide) d_K_plusBehindFour_20
abbrev rm_K_encode : Room := { frames := 2, cells := 0, slots := 0, locals := 48 }
set_option maxHeartbeats 4000000 in
set_option maxRecDepth 100000 in
theorem c_K_encode (l : Launch) (E : xE) (s : Nat) (hs : s < 512) (plus : Bool) : xCp l E y_K_encode (.code y_K_encode prog_5_method_3_code 4 (some .int)) rm_K_encode [.int (nI (s)), .int (bI plus)] [] (.inl (some (.int (nI (encF s plus))))) := by
  refine x_ofP (own := "LineCoder$TenCode") (mn := "encode") (lv := [(0, .int (nI (s))), (1, .int (bI plus))]) (plainFor_of_name (by decide)) rfl rfl (Nat.le_of_ble_eq_true rfl) rfl ?_
  intro p_ e_ s_ m_ ar_ be_ me_ c_ hB
  refine x_iload_n 1 hB d_K_encode_0 rfl rfl ?_
  refine x_iload_n 2 hB d_K_encode_1 rfl rfl ?_
  refine x_callP (k' := 0) (n' := 0) (rest := []) (st' := [.int (nI (sixF s plus))]) 5 hB (x_pfS (av := [.int (nI (s)), .int (bI plus)]) hB w_205 xHd_code w_8 w_203 w_204 nm_K_sixOf rfl d_K_encode_2) (c_K_sixOf l E s hs plus) w_205 xHd_code w_8 [] rfl rfl ⟨by decide, by decide⟩ ⟨by decide, by decide⟩ rfl rfl (Nat.le_of_ble_eq_true rfl) d_K_encode_2 rfl rfl ?_
  refine x_istore_n 6 hB d_K_encode_5 rfl (by decide) (lv' := [(2, .int (nI (sixF s plus))), (0, .int (nI (s))), (1, .int (bI plus))]) rfl ?_
  refine x_iload_n 7 hB d_K_encode_6 rfl rfl ?_
  refine x_iload_n 8 hB d_K_encode_7 rfl rfl ?_
  refine x_iload_n 9 hB d_K_encode_8 rfl rfl ?_
  refine x_callP (k' := 0) (n' := 0) (rest := [.int (nI (s))]) (st' := [.int (bI (pb6 (sixF s plus) plus)), .int (nI (s))]) 12 hB (x_pfS (av := [.int (nI (sixF s plus)), .int (bI plus)]) hB w_226 xHd_code w_8 w_224 w_225 nm_K_plusBehindSix rfl d_K_encode_9) (c_K_plusBehindSix l E (sixF s plus) (sixF_lt s plus) plus) w_226 xHd_code w_8 [] rfl rfl ⟨by decide, by decide⟩ ⟨by decide, by decide⟩ rfl rfl (Nat.le_of_ble_eq_true rfl) d_K_encode_9 rfl rfl ?_
  refine x_callP (k' := 0) (n' := 0) (rest := []) (st' := [.int (nI (fourF s (pb6 (sixF s plus) plus)))]) 15 hB (x_pfS (av := [.int (nI (s)), .int (bI (pb6 (sixF s plus) plus))]) hB w_229 xHd_code w_8 w_227 w_228 nm_K_fourOf rfl d_K_encode_12) (c_K_fourOf l E s hs (pb6 (sixF s plus) plus)) w_229 xHd_code w_8 [] rfl rfl ⟨by decide, by decide⟩ ⟨by decide, by decide⟩ rfl rfl (Nat.le_of_ble_eq_true rfl) d_K_encode_12 rfl rfl ?_
  refine x_istore_n 16 hB d_K_encode_15 rfl (by decide) (lv' := [(3, .int (nI (fourF s (pb6 (sixF s plus) plus)))), (2, .int (nI (sixF s plus))), (0, .int (nI (s))), (1, .int (bI plus))]) rfl ?_
  refine x_iload_n 17 hB d_K_encode_16 rfl rfl ?_
  refine x_iconst (v := nI 4) 18 hB d_K_encode_17 rfl (by decide) ?_
  refine x_ishl 19 hB d_K_encode_18 rfl ?_
  refine x_top (v' := .int (nI (sixF s plus * 16))) (congrArg Value.int (sl4 (sixF_lt s plus))) ?_
  refine x_iload_n 20 hB d_K_encode_19 rfl rfl ?_
  refine x_ior 21 hB d_K_encode_20 rfl ?_
  refine x_top (v' := .int (nI (encF s plus))) (congrArg Value.int (or16 _ (sixF_lt s plus) _ (fourF_lt s _))) ?_
  exact x_iretP hB (rfl) (by decide) (by decide) d_K_encode_21
abbrev rm_K_plusBehind : Room := { frames := 2, cells := 0, slots := 0, locals := 42 }
set_option maxHeartbeats 4000000 in
set_option maxRecDepth 100000 in
theorem c_K_plusBehind (l : Launch) (E : xE) (ten : Nat) (hten : ten < 1024) (plus : Bool) : xCp l E y_K_plusBehind (.code y_K_plusBehind prog_5_method_5_code 3 (some .boolean)) rm_K_plusBehind [.int (nI (ten)), .int (bI plus)] [] (.inl (some (.int (bI (pbT ten plus))))) := by
  refine x_ofP (own := "LineCoder$TenCode") (mn := "plusBehind") (lv := [(0, .int (nI (ten))), (1, .int (bI plus))]) (plainFor_of_name (by decide)) rfl rfl (Nat.le_of_ble_eq_true rfl) rfl ?_
  intro p_ e_ s_ m_ ar_ be_ me_ c_ hB
  refine x_iload_n 1 hB d_K_plusBehind_0 rfl rfl ?_
  refine x_iconst (v := nI 4) 2 hB d_K_plusBehind_1 rfl (by decide) ?_
  refine x_ishr 3 hB d_K_plusBehind_2 rfl ?_
  refine x_top (v' := .int (nI (ten / 16))) (congrArg Value.int (sh4 hten)) ?_
  refine x_iload_n 4 hB d_K_plusBehind_3 rfl rfl ?_
  refine x_callP (k' := 0) (n' := 0) (rest := []) (st' := [.int (bI (pb6 (ten / 16) plus))]) 7 hB (x_pfS (av := [.int (nI (ten / 16)), .int (bI plus)]) hB w_226 xHd_code w_8 w_224 w_225 nm_K_plusBehindSix rfl d_K_plusBehind_4) (c_K_plusBehindSix l E (ten / 16) (by omega) plus) w_226 xHd_code w_8 [] rfl rfl ⟨by decide, by decide⟩ ⟨by decide, by decide⟩ rfl rfl (Nat.le_of_ble_eq_true rfl) d_K_plusBehind_4 rfl rfl ?_
  refine x_istore_n 8 hB d_K_plusBehind_7 rfl (by decide) (lv' := [(2, .int (bI (pb6 (ten / 16) plus))), (0, .int (nI (ten))), (1, .int (bI plus))]) rfl ?_
  refine x_iload_n 9 hB d_K_plusBehind_8 rfl rfl ?_
  refine x_bipush (v := nI 15) 11 hB d_K_plusBehind_9 rfl (by decide) ?_
  refine x_iand 12 hB d_K_plusBehind_11 rfl ?_
  refine x_top (v' := .int (nI (ten % 16))) (congrArg Value.int (an15 hten)) ?_
  refine x_iload_n 13 hB d_K_plusBehind_12 rfl rfl ?_
  refine x_callP (k' := 0) (n' := 0) (rest := []) (st' := [.int (bI (pb4 (ten % 16) (pb6 (ten / 16) plus)))]) 16 hB (x_pfS (av := [.int (nI (ten % 16)), .int (bI (pb6 (ten / 16) plus))]) hB w_238 xHd_code w_8 w_236 w_237 nm_K_plusBehindFour rfl d_K_plusBehind_13) (c_K_plusBehindFour l E (ten % 16) (by omega) (pb6 (ten / 16) plus)) w_238 xHd_code w_8 [] rfl rfl ⟨by decide, by decide⟩ ⟨by decide, by decide⟩ rfl rfl (Nat.le_of_ble_eq_true rfl) d_K_plusBehind_13 rfl rfl ?_
  exact x_zretP hB (nrb _) (rfl) (by decide) (by decide) d_K_plusBehind_16
abbrev rm_K_xOf : Room := { frames := 2, cells := 0, slots := 0, locals := 44 }
set_option maxHeartbeats 4000000 in
set_option maxRecDepth 100000 in
theorem c_K_xOf (l : Launch) (E : xE) (v : Nat) (hv : v < 64) (plus : Bool) : xCp l E y_K_xOf (.code y_K_xOf prog_5_method_7_code 3 (some .int)) rm_K_xOf [.int (nI (v)), .int (bI plus)] [] (.inl (some (.int (oI (xoF v plus))))) := by
  refine x_ofP (own := "LineCoder$TenCode") (mn := "xOf") (lv := [(0, .int (nI (v))), (1, .int (bI plus))]) (plainFor_of_name (by decide)) rfl rfl (Nat.le_of_ble_eq_true rfl) rfl ?_
  intro p_ e_ s_ m_ ar_ be_ me_ c_ hB
  refine x_iconst (v := nI 0) 1 hB d_K_xOf_0 rfl (by decide) ?_
  refine x_istore_n 2 hB d_K_xOf_1 rfl (by decide) (lv' := [(2, .int (nI 0)), (0, .int (nI (v))), (1, .int (bI plus))]) rfl ?_
  refine x_lv (lv' := [(0, .int (nI (v))), (1, .int (bI plus)), (2, .int (nI 0))]) [1, 2, 0] rfl ?_
  refine x_loop (fun x : Nat => x ≤ 32 ∧ scanF (xP v plus) (32 - x) x = xoF v plus) (fun x : Nat => 32 - x) (fun x : Nat => []) (fun x : Nat => [(0, .int (nI (v))), (1, .int (bI plus)), (2, .int (nI (x)))]) (fun x : Nat => []) 0 ⟨Nat.zero_le _, rfl⟩ rfl rfl rfl (fun x hI2 IH2 => ?_)
  have hx32 := hI2.1
  refine x_iload_n 3 hB d_K_xOf_2 rfl rfl ?_
  refine x_bipush (v := nI 32) 5 hB d_K_xOf_3 rfl (by decide) ?_
  refine x_icmp_ge 38 8 hB d_K_xOf_5 (by decide) rfl (fun h5 => ?_) (fun h5 => ?_)
  · skip
    have k5 : 32 ≤ x := (nI_leI (by omega) (by omega)).mp h5
    refine x_iconst (v := (-1 : Int32)) 39 hB d_K_xOf_38 rfl (by decide) ?_
    exact x_iretP hB (sVe (by rw [← hI2.2, show 32 - x = 0 by omega]; rfl)) (by decide) (by decide) d_K_xOf_39
  · skip
    have k5 : ¬ 32 ≤ x := fun h => h5 ((nI_leI (by omega) (by omega)).mpr h)
    refine x_iload_n 9 hB d_K_xOf_8 rfl rfl ?_
    refine x_iload_n 10 hB d_K_xOf_9 rfl rfl ?_
    refine x_callP (k' := 0) (n' := 0) (rest := []) (st' := [.int (nI (sixF x plus))]) 13 hB (x_pfS (av := [.int (nI (x)), .int (bI plus)]) hB w_205 xHd_code w_8 w_203 w_204 nm_K_sixOf rfl d_K_xOf_10) (c_K_sixOf l E x (by omega) plus) w_205 xHd_code w_8 [] rfl rfl ⟨by decide, by decide⟩ ⟨by decide, by decide⟩ rfl rfl (Nat.le_of_ble_eq_true rfl) d_K_xOf_10 rfl rfl ?_
    have hs1 := sixF_lt x plus
    refine x_iload_n 14 hB d_K_xOf_13 rfl rfl ?_
    refine x_icmp_eq 30 17 hB d_K_xOf_14 (by decide) rfl (fun h14 => ?_) (fun h14 => ?_)
    · skip
      have k14 : sixF x plus = v := (nI_eq (by omega) (by omega)).mp h14
      refine x_iload_n 31 hB d_K_xOf_30 rfl rfl ?_
      exact x_iretP hB (sVe (by rw [← hI2.2, scanF_t (by omega) (by simp [xP, k14])]; rfl)) (by decide) (by decide) d_K_xOf_31
    · skip
      have k14 : ¬ sixF x plus = v := fun h => h14 ((nI_eq (by omega) (by omega)).mpr h)
      refine x_sipush (v := nI 256) 20 hB d_K_xOf_17 rfl (by decide) ?_
      refine x_iload_n 21 hB d_K_xOf_20 rfl rfl ?_
      refine x_iadd 22 hB d_K_xOf_21 rfl ?_
      refine x_top (v' := .int (nI (256 + x))) (congrArg Value.int (nI_add _ _)) ?_
      refine x_iload_n 23 hB d_K_xOf_22 rfl rfl ?_
      refine x_callP (k' := 0) (n' := 0) (rest := []) (st' := [.int (nI (sixF (256 + x) plus))]) 26 hB (x_pfS (av := [.int (nI (256 + x)), .int (bI plus)]) hB w_205 xHd_code w_8 w_203 w_204 nm_K_sixOf rfl d_K_xOf_23) (c_K_sixOf l E (256 + x) (by omega) plus) w_205 xHd_code w_8 [] rfl rfl ⟨by decide, by decide⟩ ⟨by decide, by decide⟩ rfl rfl (Nat.le_of_ble_eq_true rfl) d_K_xOf_23 rfl rfl ?_
      have hs2 := sixF_lt (256 + x) plus
      refine x_iload_n 27 hB d_K_xOf_26 rfl rfl ?_
      refine x_icmp_ne 32 30 hB d_K_xOf_27 (by decide) rfl (fun h27 => ?_) (fun h27 => ?_)
      · skip
        have k27 : ¬ sixF (256 + x) plus = v := fun h => h27 ((nI_eq (by omega) (by omega)).mpr h)
        refine x_iinc (v := nI (x + 1)) 35 hB d_K_xOf_32 rfl 2 rfl ((nI_succ x).symm) (by decide) (lv' := [(2, .int (nI (x + 1))), (0, .int (nI (v))), (1, .int (bI plus))]) rfl ?_
        refine x_goto 2 hB d_K_xOf_35 (by decide) ?_
        refine x_lv (lv' := [(0, .int (nI (v))), (1, .int (bI plus)), (2, .int (nI (x + 1)))]) [1, 2, 0] rfl ?_
        exact IH2 (x + 1) ⟨by omega, (scanF_n (by omega) (by simp [xP, k14, k27])).trans hI2.2⟩ (by omega)
      · skip
        have k27 : sixF (256 + x) plus = v := (nI_eq (by omega) (by omega)).mp h27
        refine x_iload_n 31 hB d_K_xOf_30 rfl rfl ?_
        exact x_iretP hB (sVe (by rw [← hI2.2, scanF_t (by omega) (by simp [xP, k27])]; rfl)) (by decide) (by decide) d_K_xOf_31
abbrev rm_K_decode_n : Room := { frames := 3, cells := 0, slots := 0, locals := 66 }
set_option maxHeartbeats 4000000 in
set_option maxRecDepth 100000 in
theorem c_K_decode_n (l : Launch) (E : xE) (ten : Nat) (hten : ten < 1024) (plus : Bool) (hx : xoF (ten / 16) plus = none) : xCp l E y_K_decode (.code y_K_decode prog_5_method_4_code 4 (some .int)) rm_K_decode_n [.int (nI (ten)), .int (bI plus)] [] (.inl (some (.int (-1)))) := by
  refine x_ofP (own := "LineCoder$TenCode") (mn := "decode") (lv := [(0, .int (nI (ten))), (1, .int (bI plus))]) (plainFor_of_name (by decide)) rfl rfl (Nat.le_of_ble_eq_true rfl) rfl ?_
  intro p_ e_ s_ m_ ar_ be_ me_ c_ hB
  refine x_iload_n 1 hB d_K_decode_0 rfl rfl ?_
  refine x_iconst (v := nI 4) 2 hB d_K_decode_1 rfl (by decide) ?_
  refine x_ishr 3 hB d_K_decode_2 rfl ?_
  refine x_top (v' := .int (nI (ten / 16))) (congrArg Value.int (sh4 hten)) ?_
  refine x_iload_n 4 hB d_K_decode_3 rfl rfl ?_
  refine x_callP (k' := 0) (n' := 0) (rest := []) (st' := [.int (oI (xoF (ten / 16) plus))]) 7 hB (x_pfS (av := [.int (nI (ten / 16)), .int (bI plus)]) hB w_202 xHd_code w_8 w_200 w_201 nm_K_xOf rfl d_K_decode_4) (c_K_xOf l E (ten / 16) (by omega) plus) w_202 xHd_code w_8 [] rfl rfl ⟨by decide, by decide⟩ ⟨by decide, by decide⟩ rfl rfl (Nat.le_of_ble_eq_true rfl) d_K_decode_4 rfl rfl ?_
  refine x_top (v' := .int ((-1 : Int32))) (congrArg Value.int (by rw [hx]; rfl)) ?_
  refine x_istore_n 8 hB d_K_decode_7 rfl (by decide) (lv' := [(2, .int ((-1 : Int32))), (0, .int (nI (ten))), (1, .int (bI plus))]) rfl ?_
  refine x_iload_n 9 hB d_K_decode_8 rfl rfl ?_
  refine x_iconst (v := (-1 : Int32)) 10 hB d_K_decode_9 rfl (by decide) ?_
  refine x_icmp_ne 15 13 hB d_K_decode_10 (by decide) rfl (fun hc => absurd (by decide) hc) (fun _ => ?_)
  refine x_iconst (v := (-1 : Int32)) 14 hB d_K_decode_13 rfl (by decide) ?_
  exact x_iretP hB (rfl) (by decide) (by decide) d_K_decode_14
abbrev rm_K_decode_s : Room := { frames := 3, cells := 0, slots := 0, locals := 71 }
set_option maxHeartbeats 4000000 in
set_option maxRecDepth 100000 in
theorem c_K_decode_s (l : Launch) (E : xE) (ten : Nat) (hten : ten < 1024) (plus : Bool) (x : Nat) (hx : xoF (ten / 16) plus = some x) (hxl : x < 32) : xCp l E y_K_decode (.code y_K_decode prog_5_method_4_code 4 (some .int)) rm_K_decode_s [.int (nI (ten)), .int (bI plus)] [] (.inl (some (.int (oI (decF ten plus))))) := by
  refine x_ofP (own := "LineCoder$TenCode") (mn := "decode") (lv := [(0, .int (nI (ten))), (1, .int (bI plus))]) (plainFor_of_name (by decide)) rfl rfl (Nat.le_of_ble_eq_true rfl) rfl ?_
  intro p_ e_ s_ m_ ar_ be_ me_ c_ hB
  refine x_iload_n 1 hB d_K_decode_0 rfl rfl ?_
  refine x_iconst (v := nI 4) 2 hB d_K_decode_1 rfl (by decide) ?_
  refine x_ishr 3 hB d_K_decode_2 rfl ?_
  refine x_top (v' := .int (nI (ten / 16))) (congrArg Value.int (sh4 hten)) ?_
  refine x_iload_n 4 hB d_K_decode_3 rfl rfl ?_
  refine x_callP (k' := 0) (n' := 0) (rest := []) (st' := [.int (oI (xoF (ten / 16) plus))]) 7 hB (x_pfS (av := [.int (nI (ten / 16)), .int (bI plus)]) hB w_202 xHd_code w_8 w_200 w_201 nm_K_xOf rfl d_K_decode_4) (c_K_xOf l E (ten / 16) (by omega) plus) w_202 xHd_code w_8 [] rfl rfl ⟨by decide, by decide⟩ ⟨by decide, by decide⟩ rfl rfl (Nat.le_of_ble_eq_true rfl) d_K_decode_4 rfl rfl ?_
  refine x_top (v' := .int (nI (x))) (congrArg Value.int (by rw [hx]; rfl)) ?_
  refine x_istore_n 8 hB d_K_decode_7 rfl (by decide) (lv' := [(2, .int (nI (x))), (0, .int (nI (ten))), (1, .int (bI plus))]) rfl ?_
  refine x_iload_n 9 hB d_K_decode_8 rfl rfl ?_
  refine x_iconst (v := (-1 : Int32)) 10 hB d_K_decode_9 rfl (by decide) ?_
  refine x_icmp_ne 15 13 hB d_K_decode_10 (by decide) rfl (fun _ => ?_) (fun hc => absurd hc (nI_m1 (by omega)))
  refine x_iload_n 16 hB d_K_decode_15 rfl rfl ?_
  refine x_istore_n 17 hB d_K_decode_16 rfl (by decide) (lv' := [(3, .int (nI (x))), (2, .int (nI (x))), (0, .int (nI (ten))), (1, .int (bI plus))]) rfl ?_
  refine x_lv (lv' := [(0, .int (nI (ten))), (1, .int (bI plus)), (2, .int (nI (x))), (3, .int (nI (x)))]) [2, 3, 1, 0] rfl ?_
  refine x_loop (fun i : Nat => i ≤ 16 ∧ scanF (dP ten plus x) (16 - i) i = scanF (dP ten plus x) 16 0) (fun i : Nat => 16 - i) (fun i : Nat => []) (fun i : Nat => [(0, .int (nI (ten))), (1, .int (bI plus)), (2, .int (nI (x))), (3, .int (nI (x + 32 * i)))]) (fun i : Nat => []) 0 ⟨Nat.zero_le _, rfl⟩ rfl rfl rfl (fun i hI17 IH17 => ?_)
  have hi16 := hI17.1
  refine x_iload_n 18 hB d_K_decode_17 rfl rfl ?_
  refine x_sipush (v := nI 512) 21 hB d_K_decode_18 rfl (by decide) ?_
  refine x_icmp_ge 48 24 hB d_K_decode_21 (by decide) rfl (fun h21 => ?_) (fun h21 => ?_)
  · skip
    have k21 : 512 ≤ (x + 32 * i) := (nI_leI (by omega) (by omega)).mp h21
    refine x_iconst (v := (-1 : Int32)) 49 hB d_K_decode_48 rfl (by decide) ?_
    exact x_iretP hB (sVe (by rw [decF, hx]; show _ = oI (match scanF (dP ten plus x) 16 0 with | none => none | some i => some (x + 32 * i)); rw [← hI17.2, show 16 - i = 0 by omega]; rfl)) (by decide) (by decide) d_K_decode_49
  · skip
    have k21 : ¬ 512 ≤ (x + 32 * i) := fun h => h21 ((nI_leI (by omega) (by omega)).mpr h)
    refine x_iload_n 25 hB d_K_decode_24 rfl rfl ?_
    refine x_callP (k' := 0) (n' := 0) (rest := []) (st' := [.int (bI (isS (x + 32 * i)))]) 28 hB (x_pfS (av := [.int (nI (x + 32 * i))]) hB w_216 xHd_code w_8 w_214 w_215 nm_K_isSymbol rfl d_K_decode_25) (c_K_isSymbol l E (x + 32 * i) (by omega)) w_216 xHd_code w_8 [] rfl rfl ⟨by decide, by decide⟩ ⟨by decide, by decide⟩ rfl rfl (Nat.le_of_ble_eq_true rfl) d_K_decode_25 rfl rfl ?_
    refine x_if_eq 42 31 hB d_K_decode_28 (by decide) rfl (fun h28 => ?_) (fun h28 => ?_)
    · skip
      have kf : dP ten plus x i = false := by rw [dP, bI_0 h28]; rfl
      refine x_iinc (v := nI (x + 32 * (i + 1))) 45 hB d_K_decode_42 rfl 3 rfl ((nI_add (x + 32 * i) 32)) (by decide) (lv' := [(3, .int (nI (x + 32 * (i + 1)))), (0, .int (nI (ten))), (1, .int (bI plus)), (2, .int (nI (x)))]) rfl ?_
      refine x_goto 17 hB d_K_decode_45 (by decide) ?_
      refine x_lv (lv' := [(0, .int (nI (ten))), (1, .int (bI plus)), (2, .int (nI (x))), (3, .int (nI (x + 32 * (i + 1))))]) [1, 2, 3, 0] rfl ?_
      exact IH17 (i + 1) ⟨by omega, (scanF_n (by omega) kf).trans hI17.2⟩ (by omega)
    · skip
      have k28 : isS (x + 32 * i) = true := bI_1 h28
      refine x_iload_n 32 hB d_K_decode_31 rfl rfl ?_
      refine x_iload_n 33 hB d_K_decode_32 rfl rfl ?_
      refine x_callP (k' := 0) (n' := 0) (rest := []) (st' := [.int (nI (encF (x + 32 * i) plus))]) 36 hB (x_pfS (av := [.int (nI (x + 32 * i)), .int (bI plus)]) hB w_223 xHd_code w_8 w_221 w_222 nm_K_encode rfl d_K_decode_33) (c_K_encode l E (x + 32 * i) (by omega) plus) w_223 xHd_code w_8 [] rfl rfl ⟨by decide, by decide⟩ ⟨by decide, by decide⟩ rfl rfl (Nat.le_of_ble_eq_true rfl) d_K_decode_33 rfl rfl ?_
      have he1 := encF_lt (x + 32 * i) plus
      refine x_iload_n 37 hB d_K_decode_36 rfl rfl ?_
      refine x_icmp_ne 42 40 hB d_K_decode_37 (by decide) rfl (fun h37 => ?_) (fun h37 => ?_)
      · skip
        have k37 : ¬ encF (x + 32 * i) plus = ten := fun h => h37 (by rw [h])
        have kf : dP ten plus x i = false := by rw [dP, decide_eq_false k37, Bool.and_false]
        refine x_iinc (v := nI (x + 32 * (i + 1))) 45 hB d_K_decode_42 rfl 3 rfl ((nI_add (x + 32 * i) 32)) (by decide) (lv' := [(3, .int (nI (x + 32 * (i + 1)))), (0, .int (nI (ten))), (1, .int (bI plus)), (2, .int (nI (x)))]) rfl ?_
        refine x_goto 17 hB d_K_decode_45 (by decide) ?_
        refine x_lv (lv' := [(0, .int (nI (ten))), (1, .int (bI plus)), (2, .int (nI (x))), (3, .int (nI (x + 32 * (i + 1))))]) [1, 2, 3, 0] rfl ?_
        exact IH17 (i + 1) ⟨by omega, (scanF_n (by omega) kf).trans hI17.2⟩ (by omega)
      · skip
        have k37 : encF (x + 32 * i) plus = ten := (nI_eq (by omega) (by omega)).mp h37
        refine x_iload_n 41 hB d_K_decode_40 rfl rfl ?_
        exact x_iretP hB (sVe (by rw [decF, hx]; show _ = oI (match scanF (dP ten plus x) 16 0 with | none => none | some i => some (x + 32 * i)); rw [← hI17.2, scanF_t (by omega) (by rw [dP, k28, decide_eq_true k37]; rfl)]; rfl)) (by decide) (by decide) d_K_decode_41
end
section
/-! the pure side of the receivers -/
def ahN (f : Nat → Int32) (p : Nat) : Nat → Nat
  | 0 => 0
  | i + 1 => 2 * ahN f p i + (if f (p + i) = 1 then 1 else 0)
theorem ahN_lt (f : Nat → Int32) (p : Nat) : ∀ i, ahN f p i < 2 ^ i
  | 0 => by rw [ahN]; decide
  | i + 1 => by
    have := ahN_lt f p i
    rw [ahN, Nat.pow_succ]
    split <;> omega
theorem sl1or : ∀ v, v < 512 → ∀ u, u < 2 → (nI v <<< (nI 1 &&& 31)) ||| nI u = nI (2 * v + u) := by decide +kernel
theorem ah_e {f : Nat → Int32} {p n : Nat} (hb : ∀ i, i < n → f i = 0 ∨ f i = 1) : ∀ i, i ≤ 10 → p + i ≤ n → ahF f p i = nI (ahN f p i)
  | 0, _, _ => rfl
  | i + 1, h1, h2 => by
    have ih := ah_e (p := p) hb i (by omega) (by omega)
    have hl := ahN_lt f p i
    have hl2 : ahN f p i < 512 := Nat.lt_of_lt_of_le hl (by
      have : 2 ^ i ≤ 2 ^ 9 := Nat.pow_le_pow_right (by decide) (by omega)
      exact this)
    rw [ahF, ih, ahN]
    rcases hb (p + i) (by omega) with h | h
    · rw [h]
      exact sl1or _ hl2 0 (by decide)
    · rw [h]
      exact sl1or _ hl2 1 (by decide)
def atM (f : Nat → Int32) (p : Nat) : Bool := decide (ahN f p 7 = 31 ∨ ahN f p 7 = 96)
def mxF (a b : Int32) : Int32 := if a < b then b else a
theorem mxF_1 {mk : Nat} (h : mk < 4) : mxF (nI 0) (nI mk - nI 1) = nI (mk - 1) := by
  have : ∀ k, k < 4 → mxF (nI 0) (nI k - nI 1) = nI (k - 1) := by decide +kernel
  exact this mk h
def mkF (mk : Nat) : Nat := if mk < 3 then mk + 1 else 0
def fkF (fo : Bool) (mk : Nat) : Bool := if mk < 3 then fo else false
def rwF (rw : Nat) : Nat := if rw = 3 then 0 else rw + 1
def mpF (mk rw : Nat) : Nat := if rw = 3 then mk - 1 else mk
/-- what becomes of ten bits: 0 good, 1 bad, 2 wrong -/
def tkK (ten : Nat) (plus first : Bool) : Nat := match decF ten plus with
  | some _ => 0
  | none => match decF ten (!plus) with
    | none => 1
    | some _ => if first then 0 else 2
def tkY (ten : Nat) (plus : Bool) : Nat := match decF ten plus with
  | some y => y
  | none => match decF ten (!plus) with
    | none => 0
    | some y => y
def tkP (ten : Nat) (plus first : Bool) : Bool := pbT ten (match decF ten plus with
  | some _ => plus
  | none => match decF ten (!plus) with
    | none => plus
    | some _ => if first then !plus else plus)
def tkR (ten : Nat) (plus first : Bool) : Int32 := if tkK ten plus first = 0 then nI (tkY ten plus) else if tkK ten plus first = 1 then (-2 : Int32) else nI (tkY ten plus + 512)
def tkO (fo : Bool) (mk k : Nat) : Bool := if k = 0 then fo else fkF fo mk
def tkM (mk rw k : Nat) : Nat := if k = 0 then mpF mk rw else mkF mk
def tkW (rw k : Nat) : Nat := if k = 0 then rwF rw else 0
theorem decF_lt {ten : Nat} {plus : Bool} {y : Nat} (h : decF ten plus = some y) : y < 512 := by
  unfold decF at h
  split at h
  · cases h
  · rename_i x hx
    have h1 := (scanF_lt hx).1
    split at h
    · cases h
    · rename_i i hi
      have h2 := (scanF_lt hi).1
      cases h
      omega
end
section
abbrev rm_K_decode_m : Room := { frames := 3, cells := 0, slots := 0, locals := 71 }
set_option maxHeartbeats 4000000 in
set_option maxRecDepth 100000 in
theorem c_K_decode_m (l : Launch) (E : xE) (ten : Nat) (hten : ten < 1024) (plus : Bool) (hx : xoF (ten / 16) plus = none) : xCp l E y_K_decode (.code y_K_decode prog_5_method_4_code 4 (some .int)) rm_K_decode_m [.int (nI (ten)), .int (bI plus)] [] (.inl (some (.int (-1)))) := by
  refine x_ofP (own := "LineCoder$TenCode") (mn := "decode") (lv := [(0, .int (nI (ten))), (1, .int (bI plus))]) (plainFor_of_name (by decide)) rfl rfl (Nat.le_of_ble_eq_true rfl) rfl ?_
  intro p_ e_ s_ m_ ar_ be_ me_ c_ hB
  refine x_iload_n 1 hB d_K_decode_0 rfl rfl ?_
  refine x_iconst (v := nI 4) 2 hB d_K_decode_1 rfl (by decide) ?_
  refine x_ishr 3 hB d_K_decode_2 rfl ?_
  refine x_top (v' := .int (nI (ten / 16))) (congrArg Value.int (sh4 hten)) ?_
  refine x_iload_n 4 hB d_K_decode_3 rfl rfl ?_
  refine x_callP (k' := 0) (n' := 0) (rest := []) (st' := [.int (oI (xoF (ten / 16) plus))]) 7 hB (x_pfS (av := [.int (nI (ten / 16)), .int (bI plus)]) hB w_202 xHd_code w_8 w_200 w_201 nm_K_xOf rfl d_K_decode_4) (c_K_xOf l E (ten / 16) (by omega) plus) w_202 xHd_code w_8 [] rfl rfl ⟨by decide, by decide⟩ ⟨by decide, by decide⟩ rfl rfl (Nat.le_of_ble_eq_true rfl) d_K_decode_4 rfl rfl ?_
  refine x_top (v' := .int ((-1 : Int32))) (congrArg Value.int (by rw [hx]; rfl)) ?_
  refine x_istore_n 8 hB d_K_decode_7 rfl (by decide) (lv' := [(2, .int ((-1 : Int32))), (0, .int (nI (ten))), (1, .int (bI plus))]) rfl ?_
  refine x_iload_n 9 hB d_K_decode_8 rfl rfl ?_
  refine x_iconst (v := (-1 : Int32)) 10 hB d_K_decode_9 rfl (by decide) ?_
  refine x_icmp_ne 15 13 hB d_K_decode_10 (by decide) rfl (fun hc => absurd (by decide) hc) (fun _ => ?_)
  refine x_iconst (v := (-1 : Int32)) 14 hB d_K_decode_13 rfl (by decide) ?_
  exact x_iretP hB (rfl) (by decide) (by decide) d_K_decode_14
theorem c_K_decode (l : Launch) (E : xE) (ten : Nat) (hten : ten < 1024) (plus : Bool) : xCp l E y_K_decode (.code y_K_decode prog_5_method_4_code 4 (some .int)) rm_K_decode_s [.int (nI (ten)), .int (bI plus)] [] (.inl (some (.int (oI (decF ten plus))))) := by
  cases hx : xoF (ten / 16) plus with
  | none =>
    have h := c_K_decode_m l E ten hten plus hx
    have e : oI (decF ten plus) = (-1 : Int32) := by rw [decF, hx]; rfl
    rw [e]
    exact h
  | some x => exact c_K_decode_s l E ten hten plus x hx (by have := (scanF_lt hx).1; omega)
abbrev rm_JM_maxF : Room := { frames := 0, cells := 0, slots := 0, locals := 0 }
set_option maxHeartbeats 4000000 in
set_option maxRecDepth 100000 in
theorem c_JM_maxF (l : Launch) (E : xE) (a b : Int32) : xCp l E y_JM_max (.code y_JM_max prog_16_method_65_code 2 (some .int)) rm_JM_maxF [.int (a), .int (b)] [] (.inl (some (.int (mxF a b)))) := by
  refine x_ofP (own := "java/lang/Math") (mn := "max") (lv := [(0, .int (a)), (1, .int (b))]) (by decide +kernel) rfl rfl (Nat.le_of_ble_eq_true rfl) rfl ?_
  intro p_ e_ s_ m_ ar_ be_ me_ c_ hB
  refine x_iload_n 1 hB d_JM_max_0 rfl rfl ?_
  refine x_iload_n 2 hB d_JM_max_1 rfl rfl ?_
  refine x_icmp_lt 9 5 hB d_JM_max_2 (by decide) rfl (fun h2 => ?_) (fun h2 => ?_)
  · skip
    refine x_iload_n 10 hB d_JM_max_9 rfl rfl ?_
    exact x_iretP hB (sVe (by rw [mxF, if_pos h2])) (by decide) (by decide) d_JM_max_10
  · skip
    refine x_iload_n 6 hB d_JM_max_5 rfl rfl ?_
    refine x_goto 10 hB d_JM_max_6 (by decide) ?_
    exact x_iretP hB (sVe (by rw [mxF, if_neg h2])) (by decide) (by decide) d_JM_max_10
abbrev rm_T_mark : Room := { frames := 0, cells := 0, slots := 0, locals := 0 }
set_option maxHeartbeats 4000000 in
set_option maxRecDepth 100000 in
theorem c_T_mark (l : Launch) (E : xE) (hr h0 : Nat) (fo plus first : Bool) (sl bd wr mk rw : Nat) (hm : mk < 4) : xC l E y_T_mark (.code y_T_mark prog_6_method_9_code 1 none) rm_T_mark [.ref hr] [(hr, .inr (2, [.ref h0, .int (bI fo), .int (nI (sl)), .int (nI (bd)), .int (nI (wr)), .int (bI plus), .int (bI first), .int (nI (mk)), .int (nI (rw))]))] (xRet none [(hr, .inr (2, [.ref h0, .int (bI (fkF fo mk)), .int (nI (sl)), .int (nI (bd)), .int (nI (wr)), .int (bI plus), .int (bI first), .int (nI (mkF mk)), .int (nI 0)]))]) := by
  refine x_of' (own := "LineCoder$TenReceiver") (mn := "mark") (lv := [(0, .ref hr)]) (plainFor_of_name (by decide)) rfl rfl (Nat.le_of_ble_eq_true rfl) rfl ?_
  intro p_ e_ s_ m_ ar_ be_ me_ c_ A_ hA hB
  refine x_aload_n 1 hB d_T_mark_0 rfl rfl ?_
  refine x_iconst (v := nI 0) 2 hB d_T_mark_1 rfl (by decide) ?_
  refine x_put 5 hB 0 (ws' := [(hr, .inr (2, [.ref h0, .int (bI fo), .int (nI (sl)), .int (nI (bd)), .int (nI (wr)), .int (bI plus), .int (bI first), .int (nI (mk)), .int (nI 0)]))]) fp_T_22_2 rfl (rfl) (rfl) (Nat.le_of_ble_eq_true rfl) rfl d_T_mark_2 rfl ?_
  refine x_aload_n 6 hB d_T_mark_5 rfl rfl ?_
  refine x_dup 7 hB d_T_mark_6 rfl rfl ?_
  refine x_get 10 hB 0 fg_T_18_2 rfl rfl d_T_mark_7 rfl ?_
  refine x_iconst (v := nI 1) 11 hB d_T_mark_10 rfl (by decide) ?_
  refine x_iadd 12 hB d_T_mark_11 rfl ?_
  refine x_top (v' := .int (nI (mk + 1))) (congrArg Value.int (nI_add mk 1)) ?_
  refine x_put 15 hB 0 (ws' := [(hr, .inr (2, [.ref h0, .int (bI fo), .int (nI (sl)), .int (nI (bd)), .int (nI (wr)), .int (bI plus), .int (bI first), .int (nI (mk + 1)), .int (nI 0)]))]) fp_T_18_2 rfl (rfl) (rfl) (Nat.le_of_ble_eq_true rfl) rfl d_T_mark_12 rfl ?_
  refine x_aload_n 16 hB d_T_mark_15 rfl rfl ?_
  refine x_get 19 hB 0 fg_T_18_2 rfl rfl d_T_mark_16 rfl ?_
  refine x_iconst (v := nI 4) 20 hB d_T_mark_19 rfl (by decide) ?_
  refine x_icmp_lt 33 23 hB d_T_mark_20 (by decide) rfl (fun h20 => ?_) (fun h20 => ?_)
  · skip
    have k20 : (mk + 1) < 4 := (nI_ltI (by omega) (by omega)).mp h20
    exact x_vret hB (w' := [(hr, .inr (2, [.ref h0, .int (bI fo), .int (nI (sl)), .int (nI (bd)), .int (nI (wr)), .int (bI plus), .int (bI first), .int (nI (mk + 1)), .int (nI 0)]))]) hA [0] rfl rfl (⟨rfl, by rw [mkF, fkF, if_pos (by omega), if_pos (by omega)]⟩) (by decide) (by decide) d_T_mark_33
  · skip
    have k20 : ¬ (mk + 1) < 4 := fun h => h20 ((nI_ltI (by omega) (by omega)).mpr h)
    refine x_aload_n 24 hB d_T_mark_23 rfl rfl ?_
    refine x_iconst (v := nI 0) 25 hB d_T_mark_24 rfl (by decide) ?_
    refine x_put 28 hB 0 (ws' := [(hr, .inr (2, [.ref h0, .int (bI fo), .int (nI (sl)), .int (nI (bd)), .int (nI (wr)), .int (bI plus), .int (bI first), .int (nI 0), .int (nI 0)]))]) fp_T_18_2 rfl (rfl) (rfl) (Nat.le_of_ble_eq_true rfl) rfl d_T_mark_25 rfl ?_
    refine x_aload_n 29 hB d_T_mark_28 rfl rfl ?_
    refine x_iconst (v := nI 0) 30 hB d_T_mark_29 rfl (by decide) ?_
    refine x_put 33 hB 0 (ws' := [(hr, .inr (2, [.ref h0, .int (nI 0), .int (nI (sl)), .int (nI (bd)), .int (nI (wr)), .int (bI plus), .int (bI first), .int (nI 0), .int (nI 0)]))]) fp_T_29_2 rfl (rfl) (rfl) (Nat.le_of_ble_eq_true rfl) rfl d_T_mark_30 rfl ?_
    exact x_vret hB (w' := [(hr, .inr (2, [.ref h0, .int (nI 0), .int (nI (sl)), .int (nI (bd)), .int (nI (wr)), .int (bI plus), .int (bI first), .int (nI 0), .int (nI 0)]))]) hA [0] rfl rfl (⟨rfl, by rw [mkF, fkF, if_neg (by omega), if_neg (by omega)]; rfl⟩) (by decide) (by decide) d_T_mark_33
abbrev rm_T_praise : Room := { frames := 1, cells := 0, slots := 0, locals := 21 }
set_option maxHeartbeats 4000000 in
set_option maxRecDepth 100000 in
theorem c_T_praise (l : Launch) (E : xE) (hr h0 : Nat) (fo plus first : Bool) (sl bd wr mk rw : Nat) (hm : mk < 4) (hw : rw < 4) : xC l E y_T_praise (.code y_T_praise prog_6_method_10_code 1 none) rm_T_praise [.ref hr] [(hr, .inr (2, [.ref h0, .int (bI fo), .int (nI (sl)), .int (nI (bd)), .int (nI (wr)), .int (bI plus), .int (bI first), .int (nI (mk)), .int (nI (rw))]))] (xRet none [(hr, .inr (2, [.ref h0, .int (bI fo), .int (nI (sl)), .int (nI (bd)), .int (nI (wr)), .int (bI plus), .int (bI first), .int (nI (mpF mk rw)), .int (nI (rwF rw))]))]) := by
  refine x_of' (own := "LineCoder$TenReceiver") (mn := "praise") (lv := [(0, .ref hr)]) (plainFor_of_name (by decide)) rfl rfl (Nat.le_of_ble_eq_true rfl) rfl ?_
  intro p_ e_ s_ m_ ar_ be_ me_ c_ A_ hA hB
  refine x_aload_n 1 hB d_T_praise_0 rfl rfl ?_
  refine x_dup 2 hB d_T_praise_1 rfl rfl ?_
  refine x_get 5 hB 0 fg_T_22_2 rfl rfl d_T_praise_2 rfl ?_
  refine x_iconst (v := nI 1) 6 hB d_T_praise_5 rfl (by decide) ?_
  refine x_iadd 7 hB d_T_praise_6 rfl ?_
  refine x_top (v' := .int (nI (rw + 1))) (congrArg Value.int (nI_add rw 1)) ?_
  refine x_put 10 hB 0 (ws' := [(hr, .inr (2, [.ref h0, .int (bI fo), .int (nI (sl)), .int (nI (bd)), .int (nI (wr)), .int (bI plus), .int (bI first), .int (nI (mk)), .int (nI (rw + 1))]))]) fp_T_22_2 rfl (rfl) (rfl) (Nat.le_of_ble_eq_true rfl) rfl d_T_praise_7 rfl ?_
  refine x_aload_n 11 hB d_T_praise_10 rfl rfl ?_
  refine x_get 14 hB 0 fg_T_22_2 rfl rfl d_T_praise_11 rfl ?_
  refine x_iconst (v := nI 4) 15 hB d_T_praise_14 rfl (by decide) ?_
  refine x_icmp_ne 37 18 hB d_T_praise_15 (by decide) rfl (fun h15 => ?_) (fun h15 => ?_)
  · skip
    have k15 : ¬ (rw + 1) = 4 := fun h => h15 ((nI_eq (by omega) (by omega)).mpr h)
    exact x_vret hB (w' := [(hr, .inr (2, [.ref h0, .int (bI fo), .int (nI (sl)), .int (nI (bd)), .int (nI (wr)), .int (bI plus), .int (bI first), .int (nI (mk)), .int (nI (rw + 1))]))]) hA [0] rfl rfl (⟨rfl, by rw [mpF, rwF, if_neg (by omega), if_neg (by omega)]⟩) (by decide) (by decide) d_T_praise_37
  · skip
    have k15 : (rw + 1) = 4 := (nI_eq (by omega) (by omega)).mp h15
    refine x_aload_n 19 hB d_T_praise_18 rfl rfl ?_
    refine x_iconst (v := nI 0) 20 hB d_T_praise_19 rfl (by decide) ?_
    refine x_put 23 hB 0 (ws' := [(hr, .inr (2, [.ref h0, .int (bI fo), .int (nI (sl)), .int (nI (bd)), .int (nI (wr)), .int (bI plus), .int (bI first), .int (nI (mk)), .int (nI 0)]))]) fp_T_22_2 rfl (rfl) (rfl) (Nat.le_of_ble_eq_true rfl) rfl d_T_praise_20 rfl ?_
    refine x_aload_n 24 hB d_T_praise_23 rfl rfl ?_
    refine x_iconst (v := nI 0) 25 hB d_T_praise_24 rfl (by decide) ?_
    refine x_aload_n 26 hB d_T_praise_25 rfl rfl ?_
    refine x_get 29 hB 0 fg_T_18_2 rfl rfl d_T_praise_26 rfl ?_
    refine x_iconst (v := nI 1) 30 hB d_T_praise_29 rfl (by decide) ?_
    refine x_isub 31 hB d_T_praise_30 rfl ?_
    refine x_callP (k' := 0) (n' := 0) (rest := [.ref hr]) (st' := [.int (mxF (nI 0) (nI mk - nI 1)), .ref hr]) 34 hB (x_pfS (av := [.int (nI 0), .int ((nI (mk)) - (nI 1))]) hB w_253 xHd_code w_15 w_251 w_252 nm_JM_max rfl d_T_praise_31) (c_JM_maxF l E (nI 0) (nI mk - nI 1)) w_253 xHd_code w_15 [] rfl rfl ⟨by decide, by decide⟩ ⟨by decide, by decide⟩ rfl rfl (Nat.le_of_ble_eq_true rfl) d_T_praise_31 rfl rfl ?_
    refine x_top (v' := .int (nI (mk - 1))) (congrArg Value.int (mxF_1 hm)) ?_
    refine x_put 37 hB 0 (ws' := [(hr, .inr (2, [.ref h0, .int (bI fo), .int (nI (sl)), .int (nI (bd)), .int (nI (wr)), .int (bI plus), .int (bI first), .int (nI (mk - 1)), .int (nI 0)]))]) fp_T_18_2 rfl (rfl) (rfl) (Nat.le_of_ble_eq_true rfl) rfl d_T_praise_34 rfl ?_
    exact x_vret hB (w' := [(hr, .inr (2, [.ref h0, .int (bI fo), .int (nI (sl)), .int (nI (bd)), .int (nI (wr)), .int (bI plus), .int (bI first), .int (nI (mk - 1)), .int (nI 0)]))]) hA [0] rfl rfl (⟨rfl, by rw [mpF, rwF, if_pos (by omega), if_pos (by omega)]⟩) (by decide) (by decide) d_T_praise_37
abbrev rm_T_judge_n : Room := { frames := 2, cells := 0, slots := 0, locals := 41 }
set_option maxHeartbeats 4000000 in
set_option maxRecDepth 100000 in
theorem c_T_judge_n (l : Launch) (E : xE) (hr h0 : Nat) (fo plus first : Bool) (sl bd wr mk rw : Nat) (hm : mk < 4) (z : Int32) : xC l E y_T_judge (.code y_T_judge prog_6_method_8_code 3 (some .int)) rm_T_judge_n [.ref hr, .int (-1), .int (z)] [(hr, .inr (2, [.ref h0, .int (bI fo), .int (nI (sl)), .int (nI (bd)), .int (nI (wr)), .int (bI plus), .int (bI first), .int (nI (mk)), .int (nI (rw))]))] (xRet (some (.int (-2))) [(hr, .inr (2, [.ref h0, .int (bI (fkF fo mk)), .int (nI (sl)), .int (nI (bd + 1)), .int (nI (wr)), .int (bI plus), .int (bI first), .int (nI (mkF mk)), .int (nI 0)]))]) := by
  refine x_of' (own := "LineCoder$TenReceiver") (mn := "judge") (lv := [(0, .ref hr), (1, .int (-1)), (2, .int (z))]) (plainFor_of_name (by decide)) rfl rfl (Nat.le_of_ble_eq_true rfl) rfl ?_
  intro p_ e_ s_ m_ ar_ be_ me_ c_ A_ hA hB
  refine x_iload_n 1 hB d_T_judge_0 rfl rfl ?_
  refine x_iconst (v := (-1 : Int32)) 2 hB d_T_judge_1 rfl (by decide) ?_
  refine x_icmp_ne 22 5 hB d_T_judge_2 (by decide) rfl (fun hc => absurd (by decide) hc) (fun _ => ?_)
  refine x_aload_n 6 hB d_T_judge_5 rfl rfl ?_
  refine x_dup 7 hB d_T_judge_6 rfl rfl ?_
  refine x_get 10 hB 0 fg_T_73_2 rfl rfl d_T_judge_7 rfl ?_
  refine x_iconst (v := nI 1) 11 hB d_T_judge_10 rfl (by decide) ?_
  refine x_iadd 12 hB d_T_judge_11 rfl ?_
  refine x_top (v' := .int (nI (bd + 1))) (congrArg Value.int (nI_add bd 1)) ?_
  refine x_put 15 hB 0 (ws' := [(hr, .inr (2, [.ref h0, .int (bI fo), .int (nI (sl)), .int (nI (bd + 1)), .int (nI (wr)), .int (bI plus), .int (bI first), .int (nI (mk)), .int (nI (rw))]))]) fp_T_73_2 rfl (rfl) (rfl) (Nat.le_of_ble_eq_true rfl) rfl d_T_judge_12 rfl ?_
  refine x_aload_n 16 hB d_T_judge_15 rfl rfl ?_
  refine x_callD (k' := 0) (n' := 0) (rest := []) (wr := []) (ws' := [(hr, .inr (2, [.ref h0, .int (bI (fkF fo mk)), .int (nI (sl)), .int (nI (bd + 1)), .int (nI (wr)), .int (bI plus), .int (bI first), .int (nI (mkF mk)), .int (nI 0)]))]) (st' := []) 19 hB (x_pfV (av := []) (q0 := 0) hB w_246 xHd_code w_243 w_245 s_T_mark rfl rfl nm_T_mark rfl d_T_judge_16) (c_T_mark l E hr h0 fo plus first sl (bd + 1) wr mk rw hm) w_246 xHd_code w_4 [0] [] rfl rfl rfl rfl (by decide) ⟨by decide, by decide⟩ ⟨by decide, by decide⟩ rfl rfl (Nat.le_of_ble_eq_true rfl) d_T_judge_16 rfl rfl rfl ?_
  refine x_bipush (v := (-2 : Int32)) 21 hB d_T_judge_19 rfl (by decide) ?_
  exact x_iret hB (w' := [(hr, .inr (2, [.ref h0, .int (bI (fkF fo mk)), .int (nI (sl)), .int (nI (bd + 1)), .int (nI (wr)), .int (bI plus), .int (bI first), .int (nI (mkF mk)), .int (nI 0)]))]) hA [0] rfl rfl (xRet_i) (by decide) (by decide) d_T_judge_21
abbrev rm_T_judge_w : Room := { frames := 2, cells := 0, slots := 0, locals := 41 }
set_option maxHeartbeats 4000000 in
set_option maxRecDepth 100000 in
theorem c_T_judge_w (l : Launch) (E : xE) (hr h0 : Nat) (fo plus first : Bool) (sl bd wr mk rw : Nat) (hm : mk < 4) (y : Nat) (hy : y < 512) : xC l E y_T_judge (.code y_T_judge prog_6_method_8_code 3 (some .int)) rm_T_judge_w [.ref hr, .int (nI (y)), .int (nI 1)] [(hr, .inr (2, [.ref h0, .int (bI fo), .int (nI (sl)), .int (nI (bd)), .int (nI (wr)), .int (bI plus), .int (bI first), .int (nI (mk)), .int (nI (rw))]))] (xRet (some (.int (nI (y + 512)))) [(hr, .inr (2, [.ref h0, .int (bI (fkF fo mk)), .int (nI (sl)), .int (nI (bd)), .int (nI (wr + 1)), .int (bI plus), .int (bI first), .int (nI (mkF mk)), .int (nI 0)]))]) := by
  refine x_of' (own := "LineCoder$TenReceiver") (mn := "judge") (lv := [(0, .ref hr), (1, .int (nI (y))), (2, .int (nI 1))]) (plainFor_of_name (by decide)) rfl rfl (Nat.le_of_ble_eq_true rfl) rfl ?_
  intro p_ e_ s_ m_ ar_ be_ me_ c_ A_ hA hB
  refine x_iload_n 1 hB d_T_judge_0 rfl rfl ?_
  refine x_iconst (v := (-1 : Int32)) 2 hB d_T_judge_1 rfl (by decide) ?_
  refine x_icmp_ne 22 5 hB d_T_judge_2 (by decide) rfl (fun _ => ?_) (fun hc => absurd hc (nI_m1 (by omega)))
  refine x_iload_n 23 hB d_T_judge_22 rfl rfl ?_
  refine x_if_eq 46 26 hB d_T_judge_23 (by decide) rfl (fun hc => absurd hc (by decide)) (fun _ => ?_)
  refine x_aload_n 27 hB d_T_judge_26 rfl rfl ?_
  refine x_dup 28 hB d_T_judge_27 rfl rfl ?_
  refine x_get 31 hB 0 fg_T_79_2 rfl rfl d_T_judge_28 rfl ?_
  refine x_iconst (v := nI 1) 32 hB d_T_judge_31 rfl (by decide) ?_
  refine x_iadd 33 hB d_T_judge_32 rfl ?_
  refine x_top (v' := .int (nI (wr + 1))) (congrArg Value.int (nI_add wr 1)) ?_
  refine x_put 36 hB 0 (ws' := [(hr, .inr (2, [.ref h0, .int (bI fo), .int (nI (sl)), .int (nI (bd)), .int (nI (wr + 1)), .int (bI plus), .int (bI first), .int (nI (mk)), .int (nI (rw))]))]) fp_T_79_2 rfl (rfl) (rfl) (Nat.le_of_ble_eq_true rfl) rfl d_T_judge_33 rfl ?_
  refine x_aload_n 37 hB d_T_judge_36 rfl rfl ?_
  refine x_callD (k' := 0) (n' := 0) (rest := []) (wr := []) (ws' := [(hr, .inr (2, [.ref h0, .int (bI (fkF fo mk)), .int (nI (sl)), .int (nI (bd)), .int (nI (wr + 1)), .int (bI plus), .int (bI first), .int (nI (mkF mk)), .int (nI 0)]))]) (st' := []) 40 hB (x_pfV (av := []) (q0 := 0) hB w_246 xHd_code w_243 w_245 s_T_mark rfl rfl nm_T_mark rfl d_T_judge_37) (c_T_mark l E hr h0 fo plus first sl bd (wr + 1) mk rw hm) w_246 xHd_code w_4 [0] [] rfl rfl rfl rfl (by decide) ⟨by decide, by decide⟩ ⟨by decide, by decide⟩ rfl rfl (Nat.le_of_ble_eq_true rfl) d_T_judge_37 rfl rfl rfl ?_
  refine x_iload_n 41 hB d_T_judge_40 rfl rfl ?_
  refine x_sipush (v := nI 512) 44 hB d_T_judge_41 rfl (by decide) ?_
  refine x_iadd 45 hB d_T_judge_44 rfl ?_
  refine x_top (v' := .int (nI (y + 512))) (congrArg Value.int (nI_add y 512)) ?_
  exact x_iret hB (w' := [(hr, .inr (2, [.ref h0, .int (bI (fkF fo mk)), .int (nI (sl)), .int (nI (bd)), .int (nI (wr + 1)), .int (bI plus), .int (bI first), .int (nI (mkF mk)), .int (nI 0)]))]) hA [0] rfl rfl (xRet_i) (by decide) (by decide) d_T_judge_45
abbrev rm_T_judge_g : Room := { frames := 2, cells := 0, slots := 0, locals := 41 }
set_option maxHeartbeats 4000000 in
set_option maxRecDepth 100000 in
theorem c_T_judge_g (l : Launch) (E : xE) (hr h0 : Nat) (fo plus first : Bool) (sl bd wr mk rw : Nat) (hm : mk < 4) (hw : rw < 4) (y : Nat) (hy : y < 512) : xC l E y_T_judge (.code y_T_judge prog_6_method_8_code 3 (some .int)) rm_T_judge_g [.ref hr, .int (nI (y)), .int (nI 0)] [(hr, .inr (2, [.ref h0, .int (bI fo), .int (nI (sl)), .int (nI (bd)), .int (nI (wr)), .int (bI plus), .int (bI first), .int (nI (mk)), .int (nI (rw))]))] (xRet (some (.int (nI (y)))) [(hr, .inr (2, [.ref h0, .int (bI fo), .int (nI (sl)), .int (nI (bd)), .int (nI (wr)), .int (bI plus), .int (bI first), .int (nI (mpF mk rw)), .int (nI (rwF rw))]))]) := by
  refine x_of' (own := "LineCoder$TenReceiver") (mn := "judge") (lv := [(0, .ref hr), (1, .int (nI (y))), (2, .int (nI 0))]) (plainFor_of_name (by decide)) rfl rfl (Nat.le_of_ble_eq_true rfl) rfl ?_
  intro p_ e_ s_ m_ ar_ be_ me_ c_ A_ hA hB
  refine x_iload_n 1 hB d_T_judge_0 rfl rfl ?_
  refine x_iconst (v := (-1 : Int32)) 2 hB d_T_judge_1 rfl (by decide) ?_
  refine x_icmp_ne 22 5 hB d_T_judge_2 (by decide) rfl (fun _ => ?_) (fun hc => absurd hc (nI_m1 (by omega)))
  refine x_iload_n 23 hB d_T_judge_22 rfl rfl ?_
  refine x_if_eq 46 26 hB d_T_judge_23 (by decide) rfl (fun _ => ?_) (fun hc => absurd (by decide) hc)
  refine x_aload_n 47 hB d_T_judge_46 rfl rfl ?_
  refine x_callD (k' := 0) (n' := 0) (rest := []) (wr := []) (ws' := [(hr, .inr (2, [.ref h0, .int (bI fo), .int (nI (sl)), .int (nI (bd)), .int (nI (wr)), .int (bI plus), .int (bI first), .int (nI (mpF mk rw)), .int (nI (rwF rw))]))]) (st' := []) 50 hB (x_pfV (av := []) (q0 := 0) hB w_250 xHd_code w_247 w_249 s_T_praise rfl rfl nm_T_praise rfl d_T_judge_47) (c_T_praise l E hr h0 fo plus first sl bd wr mk rw hm hw) w_250 xHd_code w_4 [0] [] rfl rfl rfl rfl (by decide) ⟨by decide, by decide⟩ ⟨by decide, by decide⟩ rfl rfl (Nat.le_of_ble_eq_true rfl) d_T_judge_47 rfl rfl rfl ?_
  refine x_iload_n 51 hB d_T_judge_50 rfl rfl ?_
  exact x_iret hB (w' := [(hr, .inr (2, [.ref h0, .int (bI fo), .int (nI (sl)), .int (nI (bd)), .int (nI (wr)), .int (bI plus), .int (bI first), .int (nI (mpF mk rw)), .int (nI (rwF rw))]))]) hA [0] rfl rfl (xRet_i) (by decide) (by decide) d_T_judge_51
abbrev rm_T_isAtMark : Room := { frames := 3, cells := 0, slots := 0, locals := 65 }
set_option maxHeartbeats 4000000 in
set_option maxRecDepth 100000 in
theorem c_T_isAtMark (l : Launch) (E : xE) (hr h0 : Nat) (fo plus first : Bool) (sl bd wr mk rw : Nat) (a0 n p : Nat) (f : Nat → Int32) (hp : p + 7 ≤ n) (hn : n ≤ 2640) (hb : ∀ i, i < n → f i = 0 ∨ f i = 1) : xCp l E y_T_isAtMark (.code y_T_isAtMark prog_6_method_6_code 2 (some .boolean)) rm_T_isAtMark [.ref hr] [(hr, .inr (2, [.ref h0, .int (bI fo), .int (nI (sl)), .int (nI (bd)), .int (nI (wr)), .int (bI plus), .int (bI first), .int (nI (mk)), .int (nI (rw))])), (h0, .inr (0, [.ref a0, .int (nI (n)), .int (nI (p))])), (a0, .inl (E.2 0, 2640, .inl (f)))] (.inl (some (.int (bI (atM f p))))) := by
  refine x_ofP (own := "LineCoder$TenReceiver") (mn := "isAtMark") (lv := [(0, .ref hr)]) (plainFor_of_name (by decide)) rfl rfl (Nat.le_of_ble_eq_true rfl) rfl ?_
  intro p_ e_ s_ m_ ar_ be_ me_ c_ hB
  refine x_aload_n 1 hB d_T_isAtMark_0 rfl rfl ?_
  refine x_get 4 hB 0 fg_T_32_2 rfl rfl d_T_isAtMark_1 rfl ?_
  refine x_bipush (v := nI 7) 6 hB d_T_isAtMark_4 rfl (by decide) ?_
  refine x_callP (k' := 0) (n' := 0) (rest := []) (st' := [.int (ahF f p 7)]) 9 hB (x_pfV (av := [.int (nI 7)]) (q0 := 1) hB w_169 xHd_code w_166 w_167 w_168 rfl rfl nm_L_ahead rfl d_T_isAtMark_6) (c_L_ahead l E h0 a0 n p f 7 hp hn hb) w_169 xHd_code w_2 [1, 2] rfl rfl ⟨by decide, by decide⟩ ⟨by decide, by decide⟩ rfl rfl (Nat.le_of_ble_eq_true rfl) d_T_isAtMark_6 rfl rfl ?_
  refine x_top (v' := .int (nI (ahN f p 7))) (congrArg Value.int (ah_e hb 7 (by omega) hp)) ?_
  have hl7 : ahN f p 7 < 128 := ahN_lt f p 7
  refine x_istore_n 10 hB d_T_isAtMark_9 rfl (by decide) (lv' := [(1, .int (nI (ahN f p 7))), (0, .ref hr)]) rfl ?_
  refine x_iload_n 11 hB d_T_isAtMark_10 rfl rfl ?_
  refine x_bipush (v := nI 31) 13 hB d_T_isAtMark_11 rfl (by decide) ?_
  refine x_icmp_eq 22 16 hB d_T_isAtMark_13 (by decide) rfl (fun h13 => ?_) (fun h13 => ?_)
  · skip
    have k13 : ahN f p 7 = 31 := (nI_eq (by omega) (by omega)).mp h13
    refine x_iconst (v := nI 1) 23 hB d_T_isAtMark_22 rfl (by decide) ?_
    refine x_goto 27 hB d_T_isAtMark_23 (by decide) ?_
    exact x_zretP hB (by decide) (sVe (bT (decide_eq_true (Or.inl k13)))) (by decide) (by decide) d_T_isAtMark_27
  · skip
    have k13 : ¬ ahN f p 7 = 31 := fun h => h13 ((nI_eq (by omega) (by omega)).mpr h)
    refine x_iload_n 17 hB d_T_isAtMark_16 rfl rfl ?_
    refine x_bipush (v := nI 96) 19 hB d_T_isAtMark_17 rfl (by decide) ?_
    refine x_icmp_ne 26 22 hB d_T_isAtMark_19 (by decide) rfl (fun h19 => ?_) (fun h19 => ?_)
    · skip
      have k19 : ¬ ahN f p 7 = 96 := fun h => h19 ((nI_eq (by omega) (by omega)).mpr h)
      refine x_iconst (v := nI 0) 27 hB d_T_isAtMark_26 rfl (by decide) ?_
      exact x_zretP hB (by decide) (sVe (bF0 (decide_eq_false (fun h => h.elim k13 k19)))) (by decide) (by decide) d_T_isAtMark_27
    · skip
      have k19 : ahN f p 7 = 96 := (nI_eq (by omega) (by omega)).mp h19
      refine x_iconst (v := nI 1) 23 hB d_T_isAtMark_22 rfl (by decide) ?_
      refine x_goto 27 hB d_T_isAtMark_23 (by decide) ?_
      exact x_zretP hB (by decide) (sVe (bT (decide_eq_true (Or.inr k19)))) (by decide) (by decide) d_T_isAtMark_27
abbrev rm_T_takeTen_A : Room := { frames := 4, cells := 0, slots := 0, locals := 94 }
set_option maxHeartbeats 4000000 in
set_option maxRecDepth 100000 in
theorem c_T_takeTen_A (l : Launch) (E : xE) (hr h0 : Nat) (fo plus first : Bool) (sl bd wr mk rw : Nat) (a0 n p : Nat) (f : Nat → Int32) (hp : p + 10 ≤ n) (hn : n ≤ 2640) (hb : ∀ i, i < n → f i = 0 ∨ f i = 1) (hm : mk < 4) (hw : rw < 4) (y : Nat) (hy : y < 512) (h1 : decF (ahN f p 10) plus = some y) : xC l E y_T_takeTen (.code y_T_takeTen prog_6_method_7_code 6 (some .int)) rm_T_takeTen_A [.ref hr] [(hr, .inr (2, [.ref h0, .int (bI fo), .int (nI (sl)), .int (nI (bd)), .int (nI (wr)), .int (bI plus), .int (bI first), .int (nI (mk)), .int (nI (rw))])), (h0, .inr (0, [.ref a0, .int (nI (n)), .int (nI (p))])), (a0, .inl (E.2 0, 2640, .inl (f)))] (xRet (some (.int (nI (y)))) [(hr, .inr (2, [.ref h0, .int (bI fo), .int (nI (sl)), .int (nI (bd)), .int (nI (wr)), .int (bI (pbT (ahN f p 10) (plus))), .int (nI 0), .int (nI (mpF mk rw)), .int (nI (rwF rw))])), (h0, .inr (0, [.ref a0, .int (nI (n)), .int (nI (p + 10))])), (a0, .inl (E.2 0, 2640, .inl (f)))]) := by
  refine x_of' (own := "LineCoder$TenReceiver") (mn := "takeTen") (lv := [(0, .ref hr)]) (plainFor_of_name (by decide)) rfl rfl (Nat.le_of_ble_eq_true rfl) rfl ?_
  intro p_ e_ s_ m_ ar_ be_ me_ c_ A_ hA hB
  refine x_aload_n 1 hB d_T_takeTen_0 rfl rfl ?_
  refine x_get 4 hB 0 fg_T_32_2 rfl rfl d_T_takeTen_1 rfl ?_
  refine x_bipush (v := nI 10) 6 hB d_T_takeTen_4 rfl (by decide) ?_
  refine x_callP (k' := 0) (n' := 0) (rest := []) (st' := [.int (ahF f p 10)]) 9 hB (x_pfV (av := [.int (nI 10)]) (q0 := 1) hB w_169 xHd_code w_166 w_167 w_168 rfl rfl nm_L_ahead rfl d_T_takeTen_6) (c_L_ahead l E h0 a0 n p f 10 hp hn hb) w_169 xHd_code w_2 [1, 2] rfl rfl ⟨by decide, by decide⟩ ⟨by decide, by decide⟩ rfl rfl (Nat.le_of_ble_eq_true rfl) d_T_takeTen_6 rfl rfl ?_
  refine x_top (v' := .int (nI (ahN f p 10))) (congrArg Value.int (ah_e hb 10 (by omega) hp)) ?_
  refine x_istore_n 10 hB d_T_takeTen_9 rfl (by decide) (lv' := [(1, .int (nI (ahN f p 10))), (0, .ref hr)]) rfl ?_
  refine x_aload_n 11 hB d_T_takeTen_10 rfl rfl ?_
  refine x_get 14 hB 0 fg_T_32_2 rfl rfl d_T_takeTen_11 rfl ?_
  refine x_bipush (v := nI 10) 16 hB d_T_takeTen_14 rfl (by decide) ?_
  refine x_callD (k' := 0) (n' := 0) (rest := []) (wr := [(hr, .inr (2, [.ref h0, .int (bI fo), .int (nI (sl)), .int (nI (bd)), .int (nI (wr)), .int (bI plus), .int (bI first), .int (nI (mk)), .int (nI (rw))])), (a0, .inl (E.2 0, 2640, .inl (f)))]) (ws' := [(hr, .inr (2, [.ref h0, .int (bI fo), .int (nI (sl)), .int (nI (bd)), .int (nI (wr)), .int (bI plus), .int (bI first), .int (nI (mk)), .int (nI (rw))])), (a0, .inl (E.2 0, 2640, .inl (f))), (h0, .inr (0, [.ref a0, .int (nI (n)), .int (nI (p + 10))]))]) (st' := []) 19 hB (x_pfV (av := [.int (nI 10)]) (q0 := 1) hB w_187 xHd_code w_196 w_185 w_186 rfl rfl nm_L_advance rfl d_T_takeTen_16) (c_L_advance l E h0 a0 n p 10 hp hn) w_187 xHd_code w_2 [1] [0, 2] rfl rfl rfl rfl (by decide) ⟨by decide, by decide⟩ ⟨by decide, by decide⟩ rfl rfl (Nat.le_of_ble_eq_true rfl) d_T_takeTen_16 rfl rfl rfl ?_
  refine x_iload_n 20 hB d_T_takeTen_19 rfl rfl ?_
  refine x_aload_n 21 hB d_T_takeTen_20 rfl rfl ?_
  refine x_get 24 hB 0 fg_T_9_2 rfl rfl d_T_takeTen_21 rfl ?_
  refine x_callP (k' := 0) (n' := 0) (rest := []) (st' := [.int (oI (decF (ahN f p 10) plus))]) 27 hB (x_pfS (av := [.int (nI (ahN f p 10)), .int (bI plus)]) hB w_199 xHd_code w_8 w_197 w_198 nm_K_decode rfl d_T_takeTen_24) (c_K_decode l E (ahN f p 10) (ahN_lt f p 10) plus) w_199 xHd_code w_8 [] rfl rfl ⟨by decide, by decide⟩ ⟨by decide, by decide⟩ rfl rfl (Nat.le_of_ble_eq_true rfl) d_T_takeTen_24 rfl rfl ?_
  refine x_top (v' := .int (nI (y))) (congrArg Value.int (by rw [h1]; rfl)) ?_
  refine x_istore_n 28 hB d_T_takeTen_27 rfl (by decide) (lv' := [(2, .int (nI (y))), (1, .int (nI (ahN f p 10))), (0, .ref hr)]) rfl ?_
  refine x_iload_n 29 hB d_T_takeTen_28 rfl rfl ?_
  refine x_iconst (v := (-1 : Int32)) 30 hB d_T_takeTen_29 rfl (by decide) ?_
  refine x_icmp_eq 37 33 hB d_T_takeTen_30 (by decide) rfl (fun hc => absurd hc (nI_m1 (by omega))) (fun _ => ?_)
  refine x_iload_n 34 hB d_T_takeTen_33 rfl rfl ?_
  refine x_goto 53 hB d_T_takeTen_34 (by decide) ?_
  refine x_istore_n 54 hB d_T_takeTen_53 rfl (by decide) (lv' := [(3, .int (nI (y))), (2, .int (nI (y))), (1, .int (nI (ahN f p 10))), (0, .ref hr)]) rfl ?_
  refine x_iload_n 55 hB d_T_takeTen_54 rfl rfl ?_
  refine x_iconst (v := (-1 : Int32)) 56 hB d_T_takeTen_55 rfl (by decide) ?_
  refine x_icmp_ne 68 59 hB d_T_takeTen_56 (by decide) rfl (fun _ => ?_) (fun hc => absurd hc (nI_m1 (by omega)))
  refine x_iconst (v := nI 0) 69 hB d_T_takeTen_68 rfl (by decide) ?_
  refine x_istore 71 hB d_T_takeTen_69 rfl (by decide) (lv' := [(4, .int (nI 0)), (3, .int (nI (y))), (2, .int (nI (y))), (1, .int (nI (ahN f p 10))), (0, .ref hr)]) rfl ?_
  refine x_iload 73 hB d_T_takeTen_71 rfl rfl ?_
  refine x_if_eq 87 76 hB d_T_takeTen_73 (by decide) rfl (fun _ => ?_) (fun hc => absurd (by decide) hc)
  refine x_iconst (v := nI 0) 88 hB d_T_takeTen_87 rfl (by decide) ?_
  refine x_istore 90 hB d_T_takeTen_88 rfl (by decide) (lv' := [(5, .int (nI 0)), (4, .int (nI 0)), (3, .int (nI (y))), (2, .int (nI (y))), (1, .int (nI (ahN f p 10))), (0, .ref hr)]) rfl ?_
  refine x_iload 92 hB d_T_takeTen_90 rfl rfl ?_
  refine x_if_eq 118 95 hB d_T_takeTen_92 (by decide) rfl (fun _ => ?_) (fun hc => absurd (by decide) hc)
  refine x_aload_n 119 hB d_T_takeTen_118 rfl rfl ?_
  refine x_iconst (v := nI 0) 120 hB d_T_takeTen_119 rfl (by decide) ?_
  refine x_put 123 hB 0 (ws' := [(hr, .inr (2, [.ref h0, .int (bI fo), .int (nI (sl)), .int (nI (bd)), .int (nI (wr)), .int (bI plus), .int (nI 0), .int (nI (mk)), .int (nI (rw))])), (a0, .inl (E.2 0, 2640, .inl (f))), (h0, .inr (0, [.ref a0, .int (nI (n)), .int (nI (p + 10))]))]) fp_T_15_2 rfl (rfl) (rfl) (Nat.le_of_ble_eq_true rfl) rfl d_T_takeTen_120 rfl ?_
  refine x_aload_n 124 hB d_T_takeTen_123 rfl rfl ?_
  refine x_iload_n 125 hB d_T_takeTen_124 rfl rfl ?_
  refine x_aload_n 126 hB d_T_takeTen_125 rfl rfl ?_
  refine x_get 129 hB 0 fg_T_9_2 rfl rfl d_T_takeTen_126 rfl ?_
  refine x_callP (k' := 0) (n' := 0) (rest := [.ref hr]) (st' := [.int (bI (pbT (ahN f p 10) (plus))), .ref hr]) 132 hB (x_pfS (av := [.int (nI (ahN f p 10)), .int (bI plus)]) hB w_235 xHd_code w_8 w_233 w_234 nm_K_plusBehind rfl d_T_takeTen_129) (c_K_plusBehind l E (ahN f p 10) (ahN_lt f p 10) (plus)) w_235 xHd_code w_8 [] rfl rfl ⟨by decide, by decide⟩ ⟨by decide, by decide⟩ rfl rfl (Nat.le_of_ble_eq_true rfl) d_T_takeTen_129 rfl rfl ?_
  refine x_put 135 hB 0 (ws' := [(hr, .inr (2, [.ref h0, .int (bI fo), .int (nI (sl)), .int (nI (bd)), .int (nI (wr)), .int (bI (pbT (ahN f p 10) (plus))), .int (nI 0), .int (nI (mk)), .int (nI (rw))])), (a0, .inl (E.2 0, 2640, .inl (f))), (h0, .inr (0, [.ref a0, .int (nI (n)), .int (nI (p + 10))]))]) fp_T_9_2 rfl (nrb _) (by cases (pbT (ahN f p 10) (plus)) <;> rfl) (Nat.le_of_ble_eq_true rfl) rfl d_T_takeTen_132 rfl ?_
  refine x_aload_n 136 hB d_T_takeTen_135 rfl rfl ?_
  refine x_iload_n 137 hB d_T_takeTen_136 rfl rfl ?_
  refine x_iload 139 hB d_T_takeTen_137 rfl rfl ?_
  refine x_callD (k' := 0) (n' := 0) (rest := []) (wr := [(a0, .inl (E.2 0, 2640, .inl (f))), (h0, .inr (0, [.ref a0, .int (nI (n)), .int (nI (p + 10))]))]) (ws' := [(a0, .inl (E.2 0, 2640, .inl (f))), (h0, .inr (0, [.ref a0, .int (nI (n)), .int (nI (p + 10))])), (hr, .inr (2, [.ref h0, .int (bI fo), .int (nI (sl)), .int (nI (bd)), .int (nI (wr)), .int (bI (pbT (ahN f p 10) (plus))), .int (nI 0), .int (nI (mpF mk rw)), .int (nI (rwF rw))]))]) (st' := [.int (nI (y))]) 142 hB (x_pfV (av := [.int (nI (y)), .int (nI 0)]) (q0 := 0) hB w_242 xHd_code w_239 w_241 s_T_judge rfl rfl nm_T_judge rfl d_T_takeTen_139) (c_T_judge_g l E hr h0 fo (pbT (ahN f p 10) (plus)) false sl bd wr mk rw hm hw y hy) w_242 xHd_code w_4 [0] [1, 2] rfl rfl rfl rfl (by decide) ⟨by decide, by decide⟩ ⟨by decide, by decide⟩ rfl rfl (Nat.le_of_ble_eq_true rfl) d_T_takeTen_139 rfl rfl rfl ?_
  exact x_iret hB (w' := [(hr, .inr (2, [.ref h0, .int (bI fo), .int (nI (sl)), .int (nI (bd)), .int (nI (wr)), .int (bI (pbT (ahN f p 10) (plus))), .int (nI 0), .int (nI (mpF mk rw)), .int (nI (rwF rw))])), (h0, .inr (0, [.ref a0, .int (nI (n)), .int (nI (p + 10))])), (a0, .inl (E.2 0, 2640, .inl (f)))]) hA [2, 1, 0] rfl rfl (xRet_i) (by decide) (by decide) d_T_takeTen_142
abbrev rm_T_takeTen_B : Room := { frames := 4, cells := 0, slots := 0, locals := 94 }
set_option maxHeartbeats 4000000 in
set_option maxRecDepth 100000 in
theorem c_T_takeTen_B (l : Launch) (E : xE) (hr h0 : Nat) (fo plus first : Bool) (sl bd wr mk rw : Nat) (a0 n p : Nat) (f : Nat → Int32) (hp : p + 10 ≤ n) (hn : n ≤ 2640) (hb : ∀ i, i < n → f i = 0 ∨ f i = 1) (hm : mk < 4) (hw : rw < 4) (h1 : decF (ahN f p 10) plus = none) (h2 : decF (ahN f p 10) (!plus) = none) : xC l E y_T_takeTen (.code y_T_takeTen prog_6_method_7_code 6 (some .int)) rm_T_takeTen_B [.ref hr] [(hr, .inr (2, [.ref h0, .int (bI fo), .int (nI (sl)), .int (nI (bd)), .int (nI (wr)), .int (bI plus), .int (bI first), .int (nI (mk)), .int (nI (rw))])), (h0, .inr (0, [.ref a0, .int (nI (n)), .int (nI (p))])), (a0, .inl (E.2 0, 2640, .inl (f)))] (xRet (some (.int (-2))) [(hr, .inr (2, [.ref h0, .int (bI (fkF fo mk)), .int (nI (sl)), .int (nI (bd + 1)), .int (nI (wr)), .int (bI (pbT (ahN f p 10) (plus))), .int (nI 0), .int (nI (mkF mk)), .int (nI 0)])), (h0, .inr (0, [.ref a0, .int (nI (n)), .int (nI (p + 10))])), (a0, .inl (E.2 0, 2640, .inl (f)))]) := by
  refine x_of' (own := "LineCoder$TenReceiver") (mn := "takeTen") (lv := [(0, .ref hr)]) (plainFor_of_name (by decide)) rfl rfl (Nat.le_of_ble_eq_true rfl) rfl ?_
  intro p_ e_ s_ m_ ar_ be_ me_ c_ A_ hA hB
  refine x_aload_n 1 hB d_T_takeTen_0 rfl rfl ?_
  refine x_get 4 hB 0 fg_T_32_2 rfl rfl d_T_takeTen_1 rfl ?_
  refine x_bipush (v := nI 10) 6 hB d_T_takeTen_4 rfl (by decide) ?_
  refine x_callP (k' := 0) (n' := 0) (rest := []) (st' := [.int (ahF f p 10)]) 9 hB (x_pfV (av := [.int (nI 10)]) (q0 := 1) hB w_169 xHd_code w_166 w_167 w_168 rfl rfl nm_L_ahead rfl d_T_takeTen_6) (c_L_ahead l E h0 a0 n p f 10 hp hn hb) w_169 xHd_code w_2 [1, 2] rfl rfl ⟨by decide, by decide⟩ ⟨by decide, by decide⟩ rfl rfl (Nat.le_of_ble_eq_true rfl) d_T_takeTen_6 rfl rfl ?_
  refine x_top (v' := .int (nI (ahN f p 10))) (congrArg Value.int (ah_e hb 10 (by omega) hp)) ?_
  refine x_istore_n 10 hB d_T_takeTen_9 rfl (by decide) (lv' := [(1, .int (nI (ahN f p 10))), (0, .ref hr)]) rfl ?_
  refine x_aload_n 11 hB d_T_takeTen_10 rfl rfl ?_
  refine x_get 14 hB 0 fg_T_32_2 rfl rfl d_T_takeTen_11 rfl ?_
  refine x_bipush (v := nI 10) 16 hB d_T_takeTen_14 rfl (by decide) ?_
  refine x_callD (k' := 0) (n' := 0) (rest := []) (wr := [(hr, .inr (2, [.ref h0, .int (bI fo), .int (nI (sl)), .int (nI (bd)), .int (nI (wr)), .int (bI plus), .int (bI first), .int (nI (mk)), .int (nI (rw))])), (a0, .inl (E.2 0, 2640, .inl (f)))]) (ws' := [(hr, .inr (2, [.ref h0, .int (bI fo), .int (nI (sl)), .int (nI (bd)), .int (nI (wr)), .int (bI plus), .int (bI first), .int (nI (mk)), .int (nI (rw))])), (a0, .inl (E.2 0, 2640, .inl (f))), (h0, .inr (0, [.ref a0, .int (nI (n)), .int (nI (p + 10))]))]) (st' := []) 19 hB (x_pfV (av := [.int (nI 10)]) (q0 := 1) hB w_187 xHd_code w_196 w_185 w_186 rfl rfl nm_L_advance rfl d_T_takeTen_16) (c_L_advance l E h0 a0 n p 10 hp hn) w_187 xHd_code w_2 [1] [0, 2] rfl rfl rfl rfl (by decide) ⟨by decide, by decide⟩ ⟨by decide, by decide⟩ rfl rfl (Nat.le_of_ble_eq_true rfl) d_T_takeTen_16 rfl rfl rfl ?_
  refine x_iload_n 20 hB d_T_takeTen_19 rfl rfl ?_
  refine x_aload_n 21 hB d_T_takeTen_20 rfl rfl ?_
  refine x_get 24 hB 0 fg_T_9_2 rfl rfl d_T_takeTen_21 rfl ?_
  refine x_callP (k' := 0) (n' := 0) (rest := []) (st' := [.int (oI (decF (ahN f p 10) plus))]) 27 hB (x_pfS (av := [.int (nI (ahN f p 10)), .int (bI plus)]) hB w_199 xHd_code w_8 w_197 w_198 nm_K_decode rfl d_T_takeTen_24) (c_K_decode l E (ahN f p 10) (ahN_lt f p 10) plus) w_199 xHd_code w_8 [] rfl rfl ⟨by decide, by decide⟩ ⟨by decide, by decide⟩ rfl rfl (Nat.le_of_ble_eq_true rfl) d_T_takeTen_24 rfl rfl ?_
  refine x_top (v' := .int ((-1 : Int32))) (congrArg Value.int (by rw [h1]; rfl)) ?_
  refine x_istore_n 28 hB d_T_takeTen_27 rfl (by decide) (lv' := [(2, .int ((-1 : Int32))), (1, .int (nI (ahN f p 10))), (0, .ref hr)]) rfl ?_
  refine x_iload_n 29 hB d_T_takeTen_28 rfl rfl ?_
  refine x_iconst (v := (-1 : Int32)) 30 hB d_T_takeTen_29 rfl (by decide) ?_
  refine x_icmp_eq 37 33 hB d_T_takeTen_30 (by decide) rfl (fun _ => ?_) (fun hc => absurd (rfl) hc)
  refine x_join 50 (fun _u : Unit => True) (fun _u : Unit => [(hr, .inr (2, [.ref h0, .int (bI fo), .int (nI (sl)), .int (nI (bd)), .int (nI (wr)), .int (bI plus), .int (bI first), .int (nI (mk)), .int (nI (rw))])), (a0, .inl (E.2 0, 2640, .inl (f))), (h0, .inr (0, [.ref a0, .int (nI (n)), .int (nI (p + 10))]))]) (fun _u : Unit => [(0, .ref hr), (1, .int (nI (ahN f p 10))), (2, .int ((-1 : Int32)))]) (fun _u : Unit => [.int (bI (!plus)), .int (nI (ahN f p 10))]) (fun _u hJ50 => ?_) (fun J50 => ?_)
  · skip
    refine x_callP (k' := 0) (n' := 0) (rest := []) (st' := [.int (oI (decF (ahN f p 10) (!plus)))]) 53 hB (x_pfS (av := [.int (nI (ahN f p 10)), .int (bI (!plus))]) hB w_199 xHd_code w_8 w_197 w_198 nm_K_decode rfl d_T_takeTen_50) (c_K_decode l E (ahN f p 10) (ahN_lt f p 10) (!plus)) w_199 xHd_code w_8 [] rfl rfl ⟨by decide, by decide⟩ ⟨by decide, by decide⟩ rfl rfl (Nat.le_of_ble_eq_true rfl) d_T_takeTen_50 rfl rfl ?_
    refine x_top (v' := .int ((-1 : Int32))) (congrArg Value.int (by rw [h2]; rfl)) ?_
    refine x_istore_n 54 hB d_T_takeTen_53 rfl (by decide) (lv' := [(3, .int ((-1 : Int32))), (0, .ref hr), (1, .int (nI (ahN f p 10))), (2, .int ((-1 : Int32)))]) rfl ?_
    refine x_iload_n 55 hB d_T_takeTen_54 rfl rfl ?_
    refine x_iconst (v := (-1 : Int32)) 56 hB d_T_takeTen_55 rfl (by decide) ?_
    refine x_icmp_ne 68 59 hB d_T_takeTen_56 (by decide) rfl (fun hc => absurd (rfl) hc) (fun _ => ?_)
    refine x_iload_n 60 hB d_T_takeTen_59 rfl rfl ?_
    refine x_iconst (v := (-1 : Int32)) 61 hB d_T_takeTen_60 rfl (by decide) ?_
    refine x_icmp_eq 68 64 hB d_T_takeTen_61 (by decide) rfl (fun _ => ?_) (fun hc => absurd (rfl) hc)
    refine x_iconst (v := nI 0) 69 hB d_T_takeTen_68 rfl (by decide) ?_
    refine x_istore 71 hB d_T_takeTen_69 rfl (by decide) (lv' := [(4, .int (nI 0)), (3, .int ((-1 : Int32))), (0, .ref hr), (1, .int (nI (ahN f p 10))), (2, .int ((-1 : Int32)))]) rfl ?_
    refine x_iload 73 hB d_T_takeTen_71 rfl rfl ?_
    refine x_if_eq 87 76 hB d_T_takeTen_73 (by decide) rfl (fun _ => ?_) (fun hc => absurd (by decide) hc)
    refine x_iconst (v := nI 0) 88 hB d_T_takeTen_87 rfl (by decide) ?_
    refine x_istore 90 hB d_T_takeTen_88 rfl (by decide) (lv' := [(5, .int (nI 0)), (4, .int (nI 0)), (3, .int ((-1 : Int32))), (0, .ref hr), (1, .int (nI (ahN f p 10))), (2, .int ((-1 : Int32)))]) rfl ?_
    refine x_iload 92 hB d_T_takeTen_90 rfl rfl ?_
    refine x_if_eq 118 95 hB d_T_takeTen_92 (by decide) rfl (fun _ => ?_) (fun hc => absurd (by decide) hc)
    refine x_aload_n 119 hB d_T_takeTen_118 rfl rfl ?_
    refine x_iconst (v := nI 0) 120 hB d_T_takeTen_119 rfl (by decide) ?_
    refine x_put 123 hB 0 (ws' := [(hr, .inr (2, [.ref h0, .int (bI fo), .int (nI (sl)), .int (nI (bd)), .int (nI (wr)), .int (bI plus), .int (nI 0), .int (nI (mk)), .int (nI (rw))])), (a0, .inl (E.2 0, 2640, .inl (f))), (h0, .inr (0, [.ref a0, .int (nI (n)), .int (nI (p + 10))]))]) fp_T_15_2 rfl (rfl) (rfl) (Nat.le_of_ble_eq_true rfl) rfl d_T_takeTen_120 rfl ?_
    refine x_aload_n 124 hB d_T_takeTen_123 rfl rfl ?_
    refine x_iload_n 125 hB d_T_takeTen_124 rfl rfl ?_
    refine x_aload_n 126 hB d_T_takeTen_125 rfl rfl ?_
    refine x_get 129 hB 0 fg_T_9_2 rfl rfl d_T_takeTen_126 rfl ?_
    refine x_callP (k' := 0) (n' := 0) (rest := [.ref hr]) (st' := [.int (bI (pbT (ahN f p 10) (plus))), .ref hr]) 132 hB (x_pfS (av := [.int (nI (ahN f p 10)), .int (bI plus)]) hB w_235 xHd_code w_8 w_233 w_234 nm_K_plusBehind rfl d_T_takeTen_129) (c_K_plusBehind l E (ahN f p 10) (ahN_lt f p 10) (plus)) w_235 xHd_code w_8 [] rfl rfl ⟨by decide, by decide⟩ ⟨by decide, by decide⟩ rfl rfl (Nat.le_of_ble_eq_true rfl) d_T_takeTen_129 rfl rfl ?_
    refine x_put 135 hB 0 (ws' := [(hr, .inr (2, [.ref h0, .int (bI fo), .int (nI (sl)), .int (nI (bd)), .int (nI (wr)), .int (bI (pbT (ahN f p 10) (plus))), .int (nI 0), .int (nI (mk)), .int (nI (rw))])), (a0, .inl (E.2 0, 2640, .inl (f))), (h0, .inr (0, [.ref a0, .int (nI (n)), .int (nI (p + 10))]))]) fp_T_9_2 rfl (nrb _) (by cases (pbT (ahN f p 10) (plus)) <;> rfl) (Nat.le_of_ble_eq_true rfl) rfl d_T_takeTen_132 rfl ?_
    refine x_aload_n 136 hB d_T_takeTen_135 rfl rfl ?_
    refine x_iload_n 137 hB d_T_takeTen_136 rfl rfl ?_
    refine x_iload 139 hB d_T_takeTen_137 rfl rfl ?_
    refine x_callD (k' := 0) (n' := 0) (rest := []) (wr := [(a0, .inl (E.2 0, 2640, .inl (f))), (h0, .inr (0, [.ref a0, .int (nI (n)), .int (nI (p + 10))]))]) (ws' := [(a0, .inl (E.2 0, 2640, .inl (f))), (h0, .inr (0, [.ref a0, .int (nI (n)), .int (nI (p + 10))])), (hr, .inr (2, [.ref h0, .int (bI (fkF fo mk)), .int (nI (sl)), .int (nI (bd + 1)), .int (nI (wr)), .int (bI (pbT (ahN f p 10) (plus))), .int (nI 0), .int (nI (mkF mk)), .int (nI 0)]))]) (st' := [.int (-2)]) 142 hB (x_pfV (av := [.int ((-1 : Int32)), .int (nI 0)]) (q0 := 0) hB w_242 xHd_code w_239 w_241 s_T_judge rfl rfl nm_T_judge rfl d_T_takeTen_139) (c_T_judge_n l E hr h0 fo (pbT (ahN f p 10) (plus)) false sl bd wr mk rw hm (nI 0)) w_242 xHd_code w_4 [0] [1, 2] rfl rfl rfl rfl (by decide) ⟨by decide, by decide⟩ ⟨by decide, by decide⟩ rfl rfl (Nat.le_of_ble_eq_true rfl) d_T_takeTen_139 rfl rfl rfl ?_
    exact x_iret hB (w' := [(hr, .inr (2, [.ref h0, .int (bI (fkF fo mk)), .int (nI (sl)), .int (nI (bd + 1)), .int (nI (wr)), .int (bI (pbT (ahN f p 10) (plus))), .int (nI 0), .int (nI (mkF mk)), .int (nI 0)])), (h0, .inr (0, [.ref a0, .int (nI (n)), .int (nI (p + 10))])), (a0, .inl (E.2 0, 2640, .inl (f)))]) hA [2, 1, 0] rfl rfl (xRet_i) (by decide) (by decide) d_T_takeTen_142
  refine x_iload_n 38 hB d_T_takeTen_37 rfl rfl ?_
  refine x_aload_n 39 hB d_T_takeTen_38 rfl rfl ?_
  refine x_get 42 hB 0 fg_T_9_2 rfl rfl d_T_takeTen_39 rfl ?_
  refine x_if_ne 49 45 hB d_T_takeTen_42 (by decide) rfl (fun h42 => ?_) (fun h42 => ?_)
  · skip
    have k42 : plus = true := bI_1 h42
    refine x_iconst (v := nI 0) 50 hB d_T_takeTen_49 rfl (by decide) ?_
    refine x_top (v' := .int (bI (!plus))) (congrArg Value.int (by rw [k42]; rfl)) ?_
    refine x_lv (lv' := [(0, .ref hr), (1, .int (nI (ahN f p 10))), (2, .int ((-1 : Int32)))]) [2, 1, 0] rfl ?_
    exact J50 () trivial
  · skip
    have k42 : plus = false := bI_0 h42
    refine x_iconst (v := nI 1) 46 hB d_T_takeTen_45 rfl (by decide) ?_
    refine x_top (v' := .int (bI (!plus))) (congrArg Value.int (by rw [k42]; rfl)) ?_
    refine x_goto 50 hB d_T_takeTen_46 (by decide) ?_
    refine x_lv (lv' := [(0, .ref hr), (1, .int (nI (ahN f p 10))), (2, .int ((-1 : Int32)))]) [2, 1, 0] rfl ?_
    exact J50 () trivial
abbrev rm_T_takeTen_C : Room := { frames := 4, cells := 0, slots := 0, locals := 94 }
set_option maxHeartbeats 4000000 in
set_option maxRecDepth 100000 in
theorem c_T_takeTen_C (l : Launch) (E : xE) (hr h0 : Nat) (fo plus : Bool) (sl bd wr mk rw : Nat) (a0 n p : Nat) (f : Nat → Int32) (hp : p + 10 ≤ n) (hn : n ≤ 2640) (hb : ∀ i, i < n → f i = 0 ∨ f i = 1) (hm : mk < 4) (hw : rw < 4) (y : Nat) (hy : y < 512) (h1 : decF (ahN f p 10) plus = none) (h2 : decF (ahN f p 10) (!plus) = some y) : xC l E y_T_takeTen (.code y_T_takeTen prog_6_method_7_code 6 (some .int)) rm_T_takeTen_C [.ref hr] [(hr, .inr (2, [.ref h0, .int (bI fo), .int (nI (sl)), .int (nI (bd)), .int (nI (wr)), .int (bI plus), .int (nI 1), .int (nI (mk)), .int (nI (rw))])), (h0, .inr (0, [.ref a0, .int (nI (n)), .int (nI (p))])), (a0, .inl (E.2 0, 2640, .inl (f)))] (xRet (some (.int (nI (y)))) [(hr, .inr (2, [.ref h0, .int (bI fo), .int (nI (sl)), .int (nI (bd)), .int (nI (wr)), .int (bI (pbT (ahN f p 10) (!plus))), .int (nI 0), .int (nI (mpF mk rw)), .int (nI (rwF rw))])), (h0, .inr (0, [.ref a0, .int (nI (n)), .int (nI (p + 10))])), (a0, .inl (E.2 0, 2640, .inl (f)))]) := by
  refine x_of' (own := "LineCoder$TenReceiver") (mn := "takeTen") (lv := [(0, .ref hr)]) (plainFor_of_name (by decide)) rfl rfl (Nat.le_of_ble_eq_true rfl) rfl ?_
  intro p_ e_ s_ m_ ar_ be_ me_ c_ A_ hA hB
  refine x_aload_n 1 hB d_T_takeTen_0 rfl rfl ?_
  refine x_get 4 hB 0 fg_T_32_2 rfl rfl d_T_takeTen_1 rfl ?_
  refine x_bipush (v := nI 10) 6 hB d_T_takeTen_4 rfl (by decide) ?_
  refine x_callP (k' := 0) (n' := 0) (rest := []) (st' := [.int (ahF f p 10)]) 9 hB (x_pfV (av := [.int (nI 10)]) (q0 := 1) hB w_169 xHd_code w_166 w_167 w_168 rfl rfl nm_L_ahead rfl d_T_takeTen_6) (c_L_ahead l E h0 a0 n p f 10 hp hn hb) w_169 xHd_code w_2 [1, 2] rfl rfl ⟨by decide, by decide⟩ ⟨by decide, by decide⟩ rfl rfl (Nat.le_of_ble_eq_true rfl) d_T_takeTen_6 rfl rfl ?_
  refine x_top (v' := .int (nI (ahN f p 10))) (congrArg Value.int (ah_e hb 10 (by omega) hp)) ?_
  refine x_istore_n 10 hB d_T_takeTen_9 rfl (by decide) (lv' := [(1, .int (nI (ahN f p 10))), (0, .ref hr)]) rfl ?_
  refine x_aload_n 11 hB d_T_takeTen_10 rfl rfl ?_
  refine x_get 14 hB 0 fg_T_32_2 rfl rfl d_T_takeTen_11 rfl ?_
  refine x_bipush (v := nI 10) 16 hB d_T_takeTen_14 rfl (by decide) ?_
  refine x_callD (k' := 0) (n' := 0) (rest := []) (wr := [(hr, .inr (2, [.ref h0, .int (bI fo), .int (nI (sl)), .int (nI (bd)), .int (nI (wr)), .int (bI plus), .int (nI 1), .int (nI (mk)), .int (nI (rw))])), (a0, .inl (E.2 0, 2640, .inl (f)))]) (ws' := [(hr, .inr (2, [.ref h0, .int (bI fo), .int (nI (sl)), .int (nI (bd)), .int (nI (wr)), .int (bI plus), .int (nI 1), .int (nI (mk)), .int (nI (rw))])), (a0, .inl (E.2 0, 2640, .inl (f))), (h0, .inr (0, [.ref a0, .int (nI (n)), .int (nI (p + 10))]))]) (st' := []) 19 hB (x_pfV (av := [.int (nI 10)]) (q0 := 1) hB w_187 xHd_code w_196 w_185 w_186 rfl rfl nm_L_advance rfl d_T_takeTen_16) (c_L_advance l E h0 a0 n p 10 hp hn) w_187 xHd_code w_2 [1] [0, 2] rfl rfl rfl rfl (by decide) ⟨by decide, by decide⟩ ⟨by decide, by decide⟩ rfl rfl (Nat.le_of_ble_eq_true rfl) d_T_takeTen_16 rfl rfl rfl ?_
  refine x_iload_n 20 hB d_T_takeTen_19 rfl rfl ?_
  refine x_aload_n 21 hB d_T_takeTen_20 rfl rfl ?_
  refine x_get 24 hB 0 fg_T_9_2 rfl rfl d_T_takeTen_21 rfl ?_
  refine x_callP (k' := 0) (n' := 0) (rest := []) (st' := [.int (oI (decF (ahN f p 10) plus))]) 27 hB (x_pfS (av := [.int (nI (ahN f p 10)), .int (bI plus)]) hB w_199 xHd_code w_8 w_197 w_198 nm_K_decode rfl d_T_takeTen_24) (c_K_decode l E (ahN f p 10) (ahN_lt f p 10) plus) w_199 xHd_code w_8 [] rfl rfl ⟨by decide, by decide⟩ ⟨by decide, by decide⟩ rfl rfl (Nat.le_of_ble_eq_true rfl) d_T_takeTen_24 rfl rfl ?_
  refine x_top (v' := .int ((-1 : Int32))) (congrArg Value.int (by rw [h1]; rfl)) ?_
  refine x_istore_n 28 hB d_T_takeTen_27 rfl (by decide) (lv' := [(2, .int ((-1 : Int32))), (1, .int (nI (ahN f p 10))), (0, .ref hr)]) rfl ?_
  refine x_iload_n 29 hB d_T_takeTen_28 rfl rfl ?_
  refine x_iconst (v := (-1 : Int32)) 30 hB d_T_takeTen_29 rfl (by decide) ?_
  refine x_icmp_eq 37 33 hB d_T_takeTen_30 (by decide) rfl (fun _ => ?_) (fun hc => absurd (rfl) hc)
  refine x_join 50 (fun _u : Unit => True) (fun _u : Unit => [(hr, .inr (2, [.ref h0, .int (bI fo), .int (nI (sl)), .int (nI (bd)), .int (nI (wr)), .int (bI plus), .int (nI 1), .int (nI (mk)), .int (nI (rw))])), (a0, .inl (E.2 0, 2640, .inl (f))), (h0, .inr (0, [.ref a0, .int (nI (n)), .int (nI (p + 10))]))]) (fun _u : Unit => [(0, .ref hr), (1, .int (nI (ahN f p 10))), (2, .int ((-1 : Int32)))]) (fun _u : Unit => [.int (bI (!plus)), .int (nI (ahN f p 10))]) (fun _u hJ50 => ?_) (fun J50 => ?_)
  · skip
    refine x_callP (k' := 0) (n' := 0) (rest := []) (st' := [.int (oI (decF (ahN f p 10) (!plus)))]) 53 hB (x_pfS (av := [.int (nI (ahN f p 10)), .int (bI (!plus))]) hB w_199 xHd_code w_8 w_197 w_198 nm_K_decode rfl d_T_takeTen_50) (c_K_decode l E (ahN f p 10) (ahN_lt f p 10) (!plus)) w_199 xHd_code w_8 [] rfl rfl ⟨by decide, by decide⟩ ⟨by decide, by decide⟩ rfl rfl (Nat.le_of_ble_eq_true rfl) d_T_takeTen_50 rfl rfl ?_
    refine x_top (v' := .int (nI (y))) (congrArg Value.int (by rw [h2]; rfl)) ?_
    refine x_istore_n 54 hB d_T_takeTen_53 rfl (by decide) (lv' := [(3, .int (nI (y))), (0, .ref hr), (1, .int (nI (ahN f p 10))), (2, .int ((-1 : Int32)))]) rfl ?_
    refine x_iload_n 55 hB d_T_takeTen_54 rfl rfl ?_
    refine x_iconst (v := (-1 : Int32)) 56 hB d_T_takeTen_55 rfl (by decide) ?_
    refine x_icmp_ne 68 59 hB d_T_takeTen_56 (by decide) rfl (fun hc => absurd (rfl) hc) (fun _ => ?_)
    refine x_iload_n 60 hB d_T_takeTen_59 rfl rfl ?_
    refine x_iconst (v := (-1 : Int32)) 61 hB d_T_takeTen_60 rfl (by decide) ?_
    refine x_icmp_eq 68 64 hB d_T_takeTen_61 (by decide) rfl (fun hc => absurd hc (nI_m1 (by omega))) (fun _ => ?_)
    refine x_iconst (v := nI 1) 65 hB d_T_takeTen_64 rfl (by decide) ?_
    refine x_goto 69 hB d_T_takeTen_65 (by decide) ?_
    refine x_istore 71 hB d_T_takeTen_69 rfl (by decide) (lv' := [(4, .int (nI 1)), (3, .int (nI (y))), (0, .ref hr), (1, .int (nI (ahN f p 10))), (2, .int ((-1 : Int32)))]) rfl ?_
    refine x_iload 73 hB d_T_takeTen_71 rfl rfl ?_
    refine x_if_eq 87 76 hB d_T_takeTen_73 (by decide) rfl (fun hc => absurd hc (by decide)) (fun _ => ?_)
    refine x_aload_n 77 hB d_T_takeTen_76 rfl rfl ?_
    refine x_get 80 hB 0 fg_T_15_2 rfl rfl d_T_takeTen_77 rfl ?_
    refine x_if_ne 87 83 hB d_T_takeTen_80 (by decide) rfl (fun _ => ?_) (fun hc => absurd hc (by decide))
    refine x_iconst (v := nI 0) 88 hB d_T_takeTen_87 rfl (by decide) ?_
    refine x_istore 90 hB d_T_takeTen_88 rfl (by decide) (lv' := [(5, .int (nI 0)), (4, .int (nI 1)), (3, .int (nI (y))), (0, .ref hr), (1, .int (nI (ahN f p 10))), (2, .int ((-1 : Int32)))]) rfl ?_
    refine x_iload 92 hB d_T_takeTen_90 rfl rfl ?_
    refine x_if_eq 118 95 hB d_T_takeTen_92 (by decide) rfl (fun hc => absurd hc (by decide)) (fun _ => ?_)
    refine x_aload_n 96 hB d_T_takeTen_95 rfl rfl ?_
    refine x_get 99 hB 0 fg_T_15_2 rfl rfl d_T_takeTen_96 rfl ?_
    refine x_if_eq 118 102 hB d_T_takeTen_99 (by decide) rfl (fun hc => absurd hc (by decide)) (fun _ => ?_)
    refine x_join 115 (fun _u : Unit => True) (fun _u : Unit => [(hr, .inr (2, [.ref h0, .int (bI fo), .int (nI (sl)), .int (nI (bd)), .int (nI (wr)), .int (bI plus), .int (nI 1), .int (nI (mk)), .int (nI (rw))])), (a0, .inl (E.2 0, 2640, .inl (f))), (h0, .inr (0, [.ref a0, .int (nI (n)), .int (nI (p + 10))]))]) (fun _u : Unit => [(0, .ref hr), (1, .int (nI (ahN f p 10))), (2, .int ((-1 : Int32))), (3, .int (nI (y))), (4, .int (nI 1)), (5, .int (nI 0))]) (fun _u : Unit => [.int (bI (!plus)), .ref hr]) (fun _u hJ115 => ?_) (fun J115 => ?_)
    · skip
      refine x_put 118 hB 0 (ws' := [(hr, .inr (2, [.ref h0, .int (bI fo), .int (nI (sl)), .int (nI (bd)), .int (nI (wr)), .int (bI (!plus)), .int (nI 1), .int (nI (mk)), .int (nI (rw))])), (a0, .inl (E.2 0, 2640, .inl (f))), (h0, .inr (0, [.ref a0, .int (nI (n)), .int (nI (p + 10))]))]) fp_T_9_2 rfl (nrb _) (by cases plus <;> rfl) (Nat.le_of_ble_eq_true rfl) rfl d_T_takeTen_115 rfl ?_
      refine x_aload_n 119 hB d_T_takeTen_118 rfl rfl ?_
      refine x_iconst (v := nI 0) 120 hB d_T_takeTen_119 rfl (by decide) ?_
      refine x_put 123 hB 0 (ws' := [(hr, .inr (2, [.ref h0, .int (bI fo), .int (nI (sl)), .int (nI (bd)), .int (nI (wr)), .int (bI (!plus)), .int (nI 0), .int (nI (mk)), .int (nI (rw))])), (a0, .inl (E.2 0, 2640, .inl (f))), (h0, .inr (0, [.ref a0, .int (nI (n)), .int (nI (p + 10))]))]) fp_T_15_2 rfl (rfl) (rfl) (Nat.le_of_ble_eq_true rfl) rfl d_T_takeTen_120 rfl ?_
      refine x_aload_n 124 hB d_T_takeTen_123 rfl rfl ?_
      refine x_iload_n 125 hB d_T_takeTen_124 rfl rfl ?_
      refine x_aload_n 126 hB d_T_takeTen_125 rfl rfl ?_
      refine x_get 129 hB 0 fg_T_9_2 rfl rfl d_T_takeTen_126 rfl ?_
      refine x_callP (k' := 0) (n' := 0) (rest := [.ref hr]) (st' := [.int (bI (pbT (ahN f p 10) (!plus))), .ref hr]) 132 hB (x_pfS (av := [.int (nI (ahN f p 10)), .int (bI (!plus))]) hB w_235 xHd_code w_8 w_233 w_234 nm_K_plusBehind rfl d_T_takeTen_129) (c_K_plusBehind l E (ahN f p 10) (ahN_lt f p 10) (!plus)) w_235 xHd_code w_8 [] rfl rfl ⟨by decide, by decide⟩ ⟨by decide, by decide⟩ rfl rfl (Nat.le_of_ble_eq_true rfl) d_T_takeTen_129 rfl rfl ?_
      refine x_put 135 hB 0 (ws' := [(hr, .inr (2, [.ref h0, .int (bI fo), .int (nI (sl)), .int (nI (bd)), .int (nI (wr)), .int (bI (pbT (ahN f p 10) (!plus))), .int (nI 0), .int (nI (mk)), .int (nI (rw))])), (a0, .inl (E.2 0, 2640, .inl (f))), (h0, .inr (0, [.ref a0, .int (nI (n)), .int (nI (p + 10))]))]) fp_T_9_2 rfl (nrb _) (by cases (pbT (ahN f p 10) (!plus)) <;> rfl) (Nat.le_of_ble_eq_true rfl) rfl d_T_takeTen_132 rfl ?_
      refine x_aload_n 136 hB d_T_takeTen_135 rfl rfl ?_
      refine x_iload_n 137 hB d_T_takeTen_136 rfl rfl ?_
      refine x_iload 139 hB d_T_takeTen_137 rfl rfl ?_
      refine x_callD (k' := 0) (n' := 0) (rest := []) (wr := [(a0, .inl (E.2 0, 2640, .inl (f))), (h0, .inr (0, [.ref a0, .int (nI (n)), .int (nI (p + 10))]))]) (ws' := [(a0, .inl (E.2 0, 2640, .inl (f))), (h0, .inr (0, [.ref a0, .int (nI (n)), .int (nI (p + 10))])), (hr, .inr (2, [.ref h0, .int (bI fo), .int (nI (sl)), .int (nI (bd)), .int (nI (wr)), .int (bI (pbT (ahN f p 10) (!plus))), .int (nI 0), .int (nI (mpF mk rw)), .int (nI (rwF rw))]))]) (st' := [.int (nI (y))]) 142 hB (x_pfV (av := [.int (nI (y)), .int (nI 0)]) (q0 := 0) hB w_242 xHd_code w_239 w_241 s_T_judge rfl rfl nm_T_judge rfl d_T_takeTen_139) (c_T_judge_g l E hr h0 fo (pbT (ahN f p 10) (!plus)) false sl bd wr mk rw hm hw y hy) w_242 xHd_code w_4 [0] [1, 2] rfl rfl rfl rfl (by decide) ⟨by decide, by decide⟩ ⟨by decide, by decide⟩ rfl rfl (Nat.le_of_ble_eq_true rfl) d_T_takeTen_139 rfl rfl rfl ?_
      exact x_iret hB (w' := [(hr, .inr (2, [.ref h0, .int (bI fo), .int (nI (sl)), .int (nI (bd)), .int (nI (wr)), .int (bI (pbT (ahN f p 10) (!plus))), .int (nI 0), .int (nI (mpF mk rw)), .int (nI (rwF rw))])), (h0, .inr (0, [.ref a0, .int (nI (n)), .int (nI (p + 10))])), (a0, .inl (E.2 0, 2640, .inl (f)))]) hA [2, 1, 0] rfl rfl (xRet_i) (by decide) (by decide) d_T_takeTen_142
    refine x_aload_n 103 hB d_T_takeTen_102 rfl rfl ?_
    refine x_aload_n 104 hB d_T_takeTen_103 rfl rfl ?_
    refine x_get 107 hB 0 fg_T_9_2 rfl rfl d_T_takeTen_104 rfl ?_
    refine x_if_ne 114 110 hB d_T_takeTen_107 (by decide) rfl (fun h107 => ?_) (fun h107 => ?_)
    · skip
      have k107 : plus = true := bI_1 h107
      refine x_iconst (v := nI 0) 115 hB d_T_takeTen_114 rfl (by decide) ?_
      refine x_top (v' := .int (bI (!plus))) (congrArg Value.int (by rw [k107]; rfl)) ?_
      refine x_lv (lv' := [(0, .ref hr), (1, .int (nI (ahN f p 10))), (2, .int ((-1 : Int32))), (3, .int (nI (y))), (4, .int (nI 1)), (5, .int (nI 0))]) [3, 4, 5, 2, 1, 0] rfl ?_
      exact J115 () trivial
    · skip
      have k107 : plus = false := bI_0 h107
      refine x_iconst (v := nI 1) 111 hB d_T_takeTen_110 rfl (by decide) ?_
      refine x_top (v' := .int (bI (!plus))) (congrArg Value.int (by rw [k107]; rfl)) ?_
      refine x_goto 115 hB d_T_takeTen_111 (by decide) ?_
      refine x_lv (lv' := [(0, .ref hr), (1, .int (nI (ahN f p 10))), (2, .int ((-1 : Int32))), (3, .int (nI (y))), (4, .int (nI 1)), (5, .int (nI 0))]) [3, 4, 5, 2, 1, 0] rfl ?_
      exact J115 () trivial
  refine x_iload_n 38 hB d_T_takeTen_37 rfl rfl ?_
  refine x_aload_n 39 hB d_T_takeTen_38 rfl rfl ?_
  refine x_get 42 hB 0 fg_T_9_2 rfl rfl d_T_takeTen_39 rfl ?_
  refine x_if_ne 49 45 hB d_T_takeTen_42 (by decide) rfl (fun h42 => ?_) (fun h42 => ?_)
  · skip
    have k42 : plus = true := bI_1 h42
    refine x_iconst (v := nI 0) 50 hB d_T_takeTen_49 rfl (by decide) ?_
    refine x_top (v' := .int (bI (!plus))) (congrArg Value.int (by rw [k42]; rfl)) ?_
    refine x_lv (lv' := [(0, .ref hr), (1, .int (nI (ahN f p 10))), (2, .int ((-1 : Int32)))]) [2, 1, 0] rfl ?_
    exact J50 () trivial
  · skip
    have k42 : plus = false := bI_0 h42
    refine x_iconst (v := nI 1) 46 hB d_T_takeTen_45 rfl (by decide) ?_
    refine x_top (v' := .int (bI (!plus))) (congrArg Value.int (by rw [k42]; rfl)) ?_
    refine x_goto 50 hB d_T_takeTen_46 (by decide) ?_
    refine x_lv (lv' := [(0, .ref hr), (1, .int (nI (ahN f p 10))), (2, .int ((-1 : Int32)))]) [2, 1, 0] rfl ?_
    exact J50 () trivial
abbrev rm_T_takeTen_D : Room := { frames := 4, cells := 0, slots := 0, locals := 94 }
set_option maxHeartbeats 4000000 in
set_option maxRecDepth 100000 in
theorem c_T_takeTen_D (l : Launch) (E : xE) (hr h0 : Nat) (fo plus : Bool) (sl bd wr mk rw : Nat) (a0 n p : Nat) (f : Nat → Int32) (hp : p + 10 ≤ n) (hn : n ≤ 2640) (hb : ∀ i, i < n → f i = 0 ∨ f i = 1) (hm : mk < 4) (hw : rw < 4) (y : Nat) (hy : y < 512) (h1 : decF (ahN f p 10) plus = none) (h2 : decF (ahN f p 10) (!plus) = some y) : xC l E y_T_takeTen (.code y_T_takeTen prog_6_method_7_code 6 (some .int)) rm_T_takeTen_D [.ref hr] [(hr, .inr (2, [.ref h0, .int (bI fo), .int (nI (sl)), .int (nI (bd)), .int (nI (wr)), .int (bI plus), .int (nI 0), .int (nI (mk)), .int (nI (rw))])), (h0, .inr (0, [.ref a0, .int (nI (n)), .int (nI (p))])), (a0, .inl (E.2 0, 2640, .inl (f)))] (xRet (some (.int (nI (y + 512)))) [(hr, .inr (2, [.ref h0, .int (bI (fkF fo mk)), .int (nI (sl)), .int (nI (bd)), .int (nI (wr + 1)), .int (bI (pbT (ahN f p 10) (plus))), .int (nI 0), .int (nI (mkF mk)), .int (nI 0)])), (h0, .inr (0, [.ref a0, .int (nI (n)), .int (nI (p + 10))])), (a0, .inl (E.2 0, 2640, .inl (f)))]) := by
  refine x_of' (own := "LineCoder$TenReceiver") (mn := "takeTen") (lv := [(0, .ref hr)]) (plainFor_of_name (by decide)) rfl rfl (Nat.le_of_ble_eq_true rfl) rfl ?_
  intro p_ e_ s_ m_ ar_ be_ me_ c_ A_ hA hB
  refine x_aload_n 1 hB d_T_takeTen_0 rfl rfl ?_
  refine x_get 4 hB 0 fg_T_32_2 rfl rfl d_T_takeTen_1 rfl ?_
  refine x_bipush (v := nI 10) 6 hB d_T_takeTen_4 rfl (by decide) ?_
  refine x_callP (k' := 0) (n' := 0) (rest := []) (st' := [.int (ahF f p 10)]) 9 hB (x_pfV (av := [.int (nI 10)]) (q0 := 1) hB w_169 xHd_code w_166 w_167 w_168 rfl rfl nm_L_ahead rfl d_T_takeTen_6) (c_L_ahead l E h0 a0 n p f 10 hp hn hb) w_169 xHd_code w_2 [1, 2] rfl rfl ⟨by decide, by decide⟩ ⟨by decide, by decide⟩ rfl rfl (Nat.le_of_ble_eq_true rfl) d_T_takeTen_6 rfl rfl ?_
  refine x_top (v' := .int (nI (ahN f p 10))) (congrArg Value.int (ah_e hb 10 (by omega) hp)) ?_
  refine x_istore_n 10 hB d_T_takeTen_9 rfl (by decide) (lv' := [(1, .int (nI (ahN f p 10))), (0, .ref hr)]) rfl ?_
  refine x_aload_n 11 hB d_T_takeTen_10 rfl rfl ?_
  refine x_get 14 hB 0 fg_T_32_2 rfl rfl d_T_takeTen_11 rfl ?_
  refine x_bipush (v := nI 10) 16 hB d_T_takeTen_14 rfl (by decide) ?_
  refine x_callD (k' := 0) (n' := 0) (rest := []) (wr := [(hr, .inr (2, [.ref h0, .int (bI fo), .int (nI (sl)), .int (nI (bd)), .int (nI (wr)), .int (bI plus), .int (nI 0), .int (nI (mk)), .int (nI (rw))])), (a0, .inl (E.2 0, 2640, .inl (f)))]) (ws' := [(hr, .inr (2, [.ref h0, .int (bI fo), .int (nI (sl)), .int (nI (bd)), .int (nI (wr)), .int (bI plus), .int (nI 0), .int (nI (mk)), .int (nI (rw))])), (a0, .inl (E.2 0, 2640, .inl (f))), (h0, .inr (0, [.ref a0, .int (nI (n)), .int (nI (p + 10))]))]) (st' := []) 19 hB (x_pfV (av := [.int (nI 10)]) (q0 := 1) hB w_187 xHd_code w_196 w_185 w_186 rfl rfl nm_L_advance rfl d_T_takeTen_16) (c_L_advance l E h0 a0 n p 10 hp hn) w_187 xHd_code w_2 [1] [0, 2] rfl rfl rfl rfl (by decide) ⟨by decide, by decide⟩ ⟨by decide, by decide⟩ rfl rfl (Nat.le_of_ble_eq_true rfl) d_T_takeTen_16 rfl rfl rfl ?_
  refine x_iload_n 20 hB d_T_takeTen_19 rfl rfl ?_
  refine x_aload_n 21 hB d_T_takeTen_20 rfl rfl ?_
  refine x_get 24 hB 0 fg_T_9_2 rfl rfl d_T_takeTen_21 rfl ?_
  refine x_callP (k' := 0) (n' := 0) (rest := []) (st' := [.int (oI (decF (ahN f p 10) plus))]) 27 hB (x_pfS (av := [.int (nI (ahN f p 10)), .int (bI plus)]) hB w_199 xHd_code w_8 w_197 w_198 nm_K_decode rfl d_T_takeTen_24) (c_K_decode l E (ahN f p 10) (ahN_lt f p 10) plus) w_199 xHd_code w_8 [] rfl rfl ⟨by decide, by decide⟩ ⟨by decide, by decide⟩ rfl rfl (Nat.le_of_ble_eq_true rfl) d_T_takeTen_24 rfl rfl ?_
  refine x_top (v' := .int ((-1 : Int32))) (congrArg Value.int (by rw [h1]; rfl)) ?_
  refine x_istore_n 28 hB d_T_takeTen_27 rfl (by decide) (lv' := [(2, .int ((-1 : Int32))), (1, .int (nI (ahN f p 10))), (0, .ref hr)]) rfl ?_
  refine x_iload_n 29 hB d_T_takeTen_28 rfl rfl ?_
  refine x_iconst (v := (-1 : Int32)) 30 hB d_T_takeTen_29 rfl (by decide) ?_
  refine x_icmp_eq 37 33 hB d_T_takeTen_30 (by decide) rfl (fun _ => ?_) (fun hc => absurd (rfl) hc)
  refine x_join 50 (fun _u : Unit => True) (fun _u : Unit => [(hr, .inr (2, [.ref h0, .int (bI fo), .int (nI (sl)), .int (nI (bd)), .int (nI (wr)), .int (bI plus), .int (nI 0), .int (nI (mk)), .int (nI (rw))])), (a0, .inl (E.2 0, 2640, .inl (f))), (h0, .inr (0, [.ref a0, .int (nI (n)), .int (nI (p + 10))]))]) (fun _u : Unit => [(0, .ref hr), (1, .int (nI (ahN f p 10))), (2, .int ((-1 : Int32)))]) (fun _u : Unit => [.int (bI (!plus)), .int (nI (ahN f p 10))]) (fun _u hJ50 => ?_) (fun J50 => ?_)
  · skip
    refine x_callP (k' := 0) (n' := 0) (rest := []) (st' := [.int (oI (decF (ahN f p 10) (!plus)))]) 53 hB (x_pfS (av := [.int (nI (ahN f p 10)), .int (bI (!plus))]) hB w_199 xHd_code w_8 w_197 w_198 nm_K_decode rfl d_T_takeTen_50) (c_K_decode l E (ahN f p 10) (ahN_lt f p 10) (!plus)) w_199 xHd_code w_8 [] rfl rfl ⟨by decide, by decide⟩ ⟨by decide, by decide⟩ rfl rfl (Nat.le_of_ble_eq_true rfl) d_T_takeTen_50 rfl rfl ?_
    refine x_top (v' := .int (nI (y))) (congrArg Value.int (by rw [h2]; rfl)) ?_
    refine x_istore_n 54 hB d_T_takeTen_53 rfl (by decide) (lv' := [(3, .int (nI (y))), (0, .ref hr), (1, .int (nI (ahN f p 10))), (2, .int ((-1 : Int32)))]) rfl ?_
    refine x_iload_n 55 hB d_T_takeTen_54 rfl rfl ?_
    refine x_iconst (v := (-1 : Int32)) 56 hB d_T_takeTen_55 rfl (by decide) ?_
    refine x_icmp_ne 68 59 hB d_T_takeTen_56 (by decide) rfl (fun hc => absurd (rfl) hc) (fun _ => ?_)
    refine x_iload_n 60 hB d_T_takeTen_59 rfl rfl ?_
    refine x_iconst (v := (-1 : Int32)) 61 hB d_T_takeTen_60 rfl (by decide) ?_
    refine x_icmp_eq 68 64 hB d_T_takeTen_61 (by decide) rfl (fun hc => absurd hc (nI_m1 (by omega))) (fun _ => ?_)
    refine x_iconst (v := nI 1) 65 hB d_T_takeTen_64 rfl (by decide) ?_
    refine x_goto 69 hB d_T_takeTen_65 (by decide) ?_
    refine x_istore 71 hB d_T_takeTen_69 rfl (by decide) (lv' := [(4, .int (nI 1)), (3, .int (nI (y))), (0, .ref hr), (1, .int (nI (ahN f p 10))), (2, .int ((-1 : Int32)))]) rfl ?_
    refine x_iload 73 hB d_T_takeTen_71 rfl rfl ?_
    refine x_if_eq 87 76 hB d_T_takeTen_73 (by decide) rfl (fun hc => absurd hc (by decide)) (fun _ => ?_)
    refine x_aload_n 77 hB d_T_takeTen_76 rfl rfl ?_
    refine x_get 80 hB 0 fg_T_15_2 rfl rfl d_T_takeTen_77 rfl ?_
    refine x_if_ne 87 83 hB d_T_takeTen_80 (by decide) rfl (fun hc => absurd (by decide) hc) (fun _ => ?_)
    refine x_iconst (v := nI 1) 84 hB d_T_takeTen_83 rfl (by decide) ?_
    refine x_goto 88 hB d_T_takeTen_84 (by decide) ?_
    refine x_istore 90 hB d_T_takeTen_88 rfl (by decide) (lv' := [(5, .int (nI 1)), (4, .int (nI 1)), (3, .int (nI (y))), (0, .ref hr), (1, .int (nI (ahN f p 10))), (2, .int ((-1 : Int32)))]) rfl ?_
    refine x_iload 92 hB d_T_takeTen_90 rfl rfl ?_
    refine x_if_eq 118 95 hB d_T_takeTen_92 (by decide) rfl (fun hc => absurd hc (by decide)) (fun _ => ?_)
    refine x_aload_n 96 hB d_T_takeTen_95 rfl rfl ?_
    refine x_get 99 hB 0 fg_T_15_2 rfl rfl d_T_takeTen_96 rfl ?_
    refine x_if_eq 118 102 hB d_T_takeTen_99 (by decide) rfl (fun _ => ?_) (fun hc => absurd (by decide) hc)
    refine x_aload_n 119 hB d_T_takeTen_118 rfl rfl ?_
    refine x_iconst (v := nI 0) 120 hB d_T_takeTen_119 rfl (by decide) ?_
    refine x_put 123 hB 0 (ws' := [(hr, .inr (2, [.ref h0, .int (bI fo), .int (nI (sl)), .int (nI (bd)), .int (nI (wr)), .int (bI plus), .int (nI 0), .int (nI (mk)), .int (nI (rw))])), (a0, .inl (E.2 0, 2640, .inl (f))), (h0, .inr (0, [.ref a0, .int (nI (n)), .int (nI (p + 10))]))]) fp_T_15_2 rfl (rfl) (rfl) (Nat.le_of_ble_eq_true rfl) rfl d_T_takeTen_120 rfl ?_
    refine x_aload_n 124 hB d_T_takeTen_123 rfl rfl ?_
    refine x_iload_n 125 hB d_T_takeTen_124 rfl rfl ?_
    refine x_aload_n 126 hB d_T_takeTen_125 rfl rfl ?_
    refine x_get 129 hB 0 fg_T_9_2 rfl rfl d_T_takeTen_126 rfl ?_
    refine x_callP (k' := 0) (n' := 0) (rest := [.ref hr]) (st' := [.int (bI (pbT (ahN f p 10) (plus))), .ref hr]) 132 hB (x_pfS (av := [.int (nI (ahN f p 10)), .int (bI plus)]) hB w_235 xHd_code w_8 w_233 w_234 nm_K_plusBehind rfl d_T_takeTen_129) (c_K_plusBehind l E (ahN f p 10) (ahN_lt f p 10) (plus)) w_235 xHd_code w_8 [] rfl rfl ⟨by decide, by decide⟩ ⟨by decide, by decide⟩ rfl rfl (Nat.le_of_ble_eq_true rfl) d_T_takeTen_129 rfl rfl ?_
    refine x_put 135 hB 0 (ws' := [(hr, .inr (2, [.ref h0, .int (bI fo), .int (nI (sl)), .int (nI (bd)), .int (nI (wr)), .int (bI (pbT (ahN f p 10) (plus))), .int (nI 0), .int (nI (mk)), .int (nI (rw))])), (a0, .inl (E.2 0, 2640, .inl (f))), (h0, .inr (0, [.ref a0, .int (nI (n)), .int (nI (p + 10))]))]) fp_T_9_2 rfl (nrb _) (by cases (pbT (ahN f p 10) (plus)) <;> rfl) (Nat.le_of_ble_eq_true rfl) rfl d_T_takeTen_132 rfl ?_
    refine x_aload_n 136 hB d_T_takeTen_135 rfl rfl ?_
    refine x_iload_n 137 hB d_T_takeTen_136 rfl rfl ?_
    refine x_iload 139 hB d_T_takeTen_137 rfl rfl ?_
    refine x_callD (k' := 0) (n' := 0) (rest := []) (wr := [(a0, .inl (E.2 0, 2640, .inl (f))), (h0, .inr (0, [.ref a0, .int (nI (n)), .int (nI (p + 10))]))]) (ws' := [(a0, .inl (E.2 0, 2640, .inl (f))), (h0, .inr (0, [.ref a0, .int (nI (n)), .int (nI (p + 10))])), (hr, .inr (2, [.ref h0, .int (bI (fkF fo mk)), .int (nI (sl)), .int (nI (bd)), .int (nI (wr + 1)), .int (bI (pbT (ahN f p 10) (plus))), .int (nI 0), .int (nI (mkF mk)), .int (nI 0)]))]) (st' := [.int (nI (y + 512))]) 142 hB (x_pfV (av := [.int (nI (y)), .int (nI 1)]) (q0 := 0) hB w_242 xHd_code w_239 w_241 s_T_judge rfl rfl nm_T_judge rfl d_T_takeTen_139) (c_T_judge_w l E hr h0 fo (pbT (ahN f p 10) (plus)) false sl bd wr mk rw hm y hy) w_242 xHd_code w_4 [0] [1, 2] rfl rfl rfl rfl (by decide) ⟨by decide, by decide⟩ ⟨by decide, by decide⟩ rfl rfl (Nat.le_of_ble_eq_true rfl) d_T_takeTen_139 rfl rfl rfl ?_
    exact x_iret hB (w' := [(hr, .inr (2, [.ref h0, .int (bI (fkF fo mk)), .int (nI (sl)), .int (nI (bd)), .int (nI (wr + 1)), .int (bI (pbT (ahN f p 10) (plus))), .int (nI 0), .int (nI (mkF mk)), .int (nI 0)])), (h0, .inr (0, [.ref a0, .int (nI (n)), .int (nI (p + 10))])), (a0, .inl (E.2 0, 2640, .inl (f)))]) hA [2, 1, 0] rfl rfl (xRet_i) (by decide) (by decide) d_T_takeTen_142
  refine x_iload_n 38 hB d_T_takeTen_37 rfl rfl ?_
  refine x_aload_n 39 hB d_T_takeTen_38 rfl rfl ?_
  refine x_get 42 hB 0 fg_T_9_2 rfl rfl d_T_takeTen_39 rfl ?_
  refine x_if_ne 49 45 hB d_T_takeTen_42 (by decide) rfl (fun h42 => ?_) (fun h42 => ?_)
  · skip
    have k42 : plus = true := bI_1 h42
    refine x_iconst (v := nI 0) 50 hB d_T_takeTen_49 rfl (by decide) ?_
    refine x_top (v' := .int (bI (!plus))) (congrArg Value.int (by rw [k42]; rfl)) ?_
    refine x_lv (lv' := [(0, .ref hr), (1, .int (nI (ahN f p 10))), (2, .int ((-1 : Int32)))]) [2, 1, 0] rfl ?_
    exact J50 () trivial
  · skip
    have k42 : plus = false := bI_0 h42
    refine x_iconst (v := nI 1) 46 hB d_T_takeTen_45 rfl (by decide) ?_
    refine x_top (v' := .int (bI (!plus))) (congrArg Value.int (by rw [k42]; rfl)) ?_
    refine x_goto 50 hB d_T_takeTen_46 (by decide) ?_
    refine x_lv (lv' := [(0, .ref hr), (1, .int (nI (ahN f p 10))), (2, .int ((-1 : Int32)))]) [2, 1, 0] rfl ?_
    exact J50 () trivial
end
section
/-! one step of the receiver of tens, by its case -/
def rcC (f : Nat → Int32) (n p : Nat) (fo : Bool) : Nat := if fo then (if n - p < 10 then 4 else 5) else if n - p < 7 then 0 else if atM f p then (if n - p < 10 then 2 else 3) else 1
def rcR (c ten : Nat) (plus first : Bool) : Int32 := match c with
  | 0 => (-1 : Int32)
  | 1 => (-3 : Int32)
  | 2 => (-1 : Int32)
  | 3 => tkR ten plus true
  | 4 => (-1 : Int32)
  | _ => tkR ten plus first
def rcO (c ten : Nat) (plus first : Bool) (mk : Nat) : Bool := match c with
  | 0 => false
  | 1 => false
  | 2 => true
  | 3 => tkO true mk (tkK ten plus true)
  | 4 => true
  | _ => tkO true mk (tkK ten plus first)
def rcP (c ten : Nat) (plus first : Bool) : Bool := match c with
  | 0 => plus
  | 1 => plus
  | 2 => plus
  | 3 => tkP ten plus true
  | 4 => plus
  | _ => tkP ten plus first
def rcF (c : Nat) (first : Bool) : Bool := match c with
  | 0 => first
  | 1 => first
  | 2 => true
  | 3 => false
  | 4 => first
  | _ => false
def rcS (c sl : Nat) : Nat := match c with
  | 1 => sl + 1
  | _ => sl
/-- bads (w = 1), wrongs (w = 2) -/
def rcN (w c ten : Nat) (plus first : Bool) (bd : Nat) : Nat := match c with
  | 3 => bd + (if tkK ten plus true = w then 1 else 0)
  | 5 => bd + (if tkK ten plus first = w then 1 else 0)
  | _ => bd
def rcM (c ten : Nat) (plus first : Bool) (mk rw : Nat) : Nat := match c with
  | 3 => tkM mk rw (tkK ten plus true)
  | 5 => tkM mk rw (tkK ten plus first)
  | _ => mk
def rcW (c ten : Nat) (plus first : Bool) (rw : Nat) : Nat := match c with
  | 3 => tkW rw (tkK ten plus true)
  | 5 => tkW rw (tkK ten plus first)
  | _ => rw
def rcL (c p : Nat) : Nat := match c with
  | 1 => p + 1
  | 3 => p + 10
  | 5 => p + 10
  | _ => p
end
section
set_option maxHeartbeats 4000000 in
theorem c_T_takeTen (l : Launch) (E : xE) (hr h0 : Nat) (fo plus first : Bool) (sl bd wr mk rw : Nat) (a0 n p : Nat) (f : Nat → Int32) (hp : p + 10 ≤ n) (hn : n ≤ 2640) (hb : ∀ i, i < n → f i = 0 ∨ f i = 1) (hm : mk < 4) (hw : rw < 4) : xC l E y_T_takeTen (.code y_T_takeTen prog_6_method_7_code 6 (some .int)) rm_T_takeTen_A [.ref hr] [(hr, .inr (2, [.ref h0, .int (bI fo), .int (nI (sl)), .int (nI (bd)), .int (nI (wr)), .int (bI plus), .int (bI first), .int (nI (mk)), .int (nI (rw))])), (h0, .inr (0, [.ref a0, .int (nI (n)), .int (nI (p))])), (a0, .inl (E.2 0, 2640, .inl (f)))] (xRet (some (.int (tkR (ahN f p 10) plus first))) [(hr, .inr (2, [.ref h0, .int (bI (tkO fo mk (tkK (ahN f p 10) plus first))), .int (nI (sl)), .int (nI (bd + (if (tkK (ahN f p 10) plus first) = 1 then 1 else 0))), .int (nI (wr + (if (tkK (ahN f p 10) plus first) = 2 then 1 else 0))), .int (bI (tkP (ahN f p 10) plus first)), .int (nI 0), .int (nI (tkM mk rw (tkK (ahN f p 10) plus first))), .int (nI (tkW rw (tkK (ahN f p 10) plus first)))])), (h0, .inr (0, [.ref a0, .int (nI (n)), .int (nI (p + 10))])), (a0, .inl (E.2 0, 2640, .inl (f)))]) := by
  cases h1 : decF (ahN f p 10) plus with
  | some y =>
    have h := c_T_takeTen_A l E hr h0 fo plus first sl bd wr mk rw a0 n p f hp hn hb hm hw y (decF_lt h1) h1
    have e1 : tkK (ahN f p 10) plus first = 0 := by rw [tkK, h1]
    have e2 : tkR (ahN f p 10) plus first = nI y := by rw [tkR, e1, tkY, h1]; rfl
    have e3 : tkP (ahN f p 10) plus first = pbT (ahN f p 10) plus := by rw [tkP, h1]
    rw [e2, e3, e1]
    exact h
  | none =>
    cases h2 : decF (ahN f p 10) (!plus) with
    | none =>
      have h := c_T_takeTen_B l E hr h0 fo plus first sl bd wr mk rw a0 n p f hp hn hb hm hw h1 h2
      have e1 : tkK (ahN f p 10) plus first = 1 := by rw [tkK, h1, h2]
      have e2 : tkR (ahN f p 10) plus first = (-2 : Int32) := by rw [tkR, e1]; rfl
      have e3 : tkP (ahN f p 10) plus first = pbT (ahN f p 10) plus := by rw [tkP, h1, h2]
      rw [e2, e3, e1]
      exact h
    | some y =>
      cases first with
      | true =>
        have h := c_T_takeTen_C l E hr h0 fo plus sl bd wr mk rw a0 n p f hp hn hb hm hw y (decF_lt h2) h1 h2
        have e1 : tkK (ahN f p 10) plus true = 0 := by rw [tkK, h1, h2]; rfl
        have e2 : tkR (ahN f p 10) plus true = nI y := by rw [tkR, e1, tkY, h1, h2]; rfl
        have e3 : tkP (ahN f p 10) plus true = pbT (ahN f p 10) (!plus) := by rw [tkP, h1, h2]; rfl
        rw [e2, e3, e1]
        exact h
      | false =>
        have h := c_T_takeTen_D l E hr h0 fo plus sl bd wr mk rw a0 n p f hp hn hb hm hw y (decF_lt h2) h1 h2
        have e1 : tkK (ahN f p 10) plus false = 2 := by rw [tkK, h1, h2]; rfl
        have e2 : tkR (ahN f p 10) plus false = nI (y + 512) := by rw [tkR, e1, tkY, h1, h2]; rfl
        have e3 : tkP (ahN f p 10) plus false = pbT (ahN f p 10) plus := by rw [tkP, h1, h2]; rfl
        rw [e2, e3, e1]
        exact h
abbrev rm_T_step_0 : Room := { frames := 5, cells := 0, slots := 0, locals := 119 }
set_option maxHeartbeats 4000000 in
set_option maxRecDepth 100000 in
theorem c_T_step_0 (l : Launch) (E : xE) (hr h0 : Nat) (plus first : Bool) (sl bd wr mk rw : Nat) (a0 n p : Nat) (f : Nat → Int32) (hn : n ≤ 2640) (hb : ∀ i, i < n → f i = 0 ∨ f i = 1) (hm : mk < 4) (hw : rw < 4) (hp : p ≤ n) (hc : n - p < 7) : xC l E y_T_step (.code y_T_step prog_6_method_5_code 1 (some .int)) rm_T_step_0 [.ref hr] [(hr, .inr (2, [.ref h0, .int (bI false), .int (nI (sl)), .int (nI (bd)), .int (nI (wr)), .int (bI plus), .int (bI first), .int (nI (mk)), .int (nI (rw))])), (h0, .inr (0, [.ref a0, .int (nI (n)), .int (nI (p))])), (a0, .inl (E.2 0, 2640, .inl (f)))] (xRet (some (.int (-1))) [(hr, .inr (2, [.ref h0, .int (bI false), .int (nI (sl)), .int (nI (bd)), .int (nI (wr)), .int (bI plus), .int (bI first), .int (nI (mk)), .int (nI (rw))])), (h0, .inr (0, [.ref a0, .int (nI (n)), .int (nI (p))])), (a0, .inl (E.2 0, 2640, .inl (f)))]) := by
  refine x_of' (own := "LineCoder$TenReceiver") (mn := "step") (lv := [(0, .ref hr)]) (plainFor_of_name (by decide)) rfl rfl (Nat.le_of_ble_eq_true rfl) rfl ?_
  intro p_ e_ s_ m_ ar_ be_ me_ c_ A_ hA hB
  refine x_aload_n 1 hB d_T_step_0 rfl rfl ?_
  refine x_get 4 hB 0 fg_T_29_2 rfl rfl d_T_step_1 rfl ?_
  refine x_if_ne 43 7 hB d_T_step_4 (by decide) rfl (fun hc => absurd (rfl) hc) (fun _ => ?_)
  refine x_aload_n 8 hB d_T_step_7 rfl rfl ?_
  refine x_get 11 hB 0 fg_T_32_2 rfl rfl d_T_step_8 rfl ?_
  refine x_callP (k' := 0) (n' := 0) (rest := []) (st' := [.int (nI (n - p))]) 14 hB (x_pfV (av := []) (q0 := 1) hB w_161 xHd_code w_158 w_159 w_160 rfl rfl nm_L_left rfl d_T_step_11) (c_L_left l E h0 a0 n p hp) w_161 xHd_code w_2 [1] rfl rfl ⟨by decide, by decide⟩ ⟨by decide, by decide⟩ rfl rfl (Nat.le_of_ble_eq_true rfl) d_T_step_11 rfl rfl ?_
  refine x_bipush (v := nI 7) 16 hB d_T_step_14 rfl (by decide) ?_
  refine x_icmp_ge 21 19 hB d_T_step_16 (by decide) rfl (fun hc => absurd hc (nI_ge (by omega) (by omega))) (fun _ => ?_)
  refine x_iconst (v := (-1 : Int32)) 20 hB d_T_step_19 rfl (by decide) ?_
  exact x_iret hB (w' := [(hr, .inr (2, [.ref h0, .int (bI false), .int (nI (sl)), .int (nI (bd)), .int (nI (wr)), .int (bI plus), .int (bI first), .int (nI (mk)), .int (nI (rw))])), (h0, .inr (0, [.ref a0, .int (nI (n)), .int (nI (p))])), (a0, .inl (E.2 0, 2640, .inl (f)))]) hA [0, 1, 2] rfl rfl (xRet_i) (by decide) (by decide) d_T_step_20
abbrev rm_T_step_1 : Room := { frames := 5, cells := 0, slots := 0, locals := 119 }
set_option maxHeartbeats 4000000 in
set_option maxRecDepth 100000 in
theorem c_T_step_1 (l : Launch) (E : xE) (hr h0 : Nat) (plus first : Bool) (sl bd wr mk rw : Nat) (a0 n p : Nat) (f : Nat → Int32) (hn : n ≤ 2640) (hb : ∀ i, i < n → f i = 0 ∨ f i = 1) (hm : mk < 4) (hw : rw < 4) (hp : p ≤ n) (hc : ¬ n - p < 7) (hM : atM f p = false) : xC l E y_T_step (.code y_T_step prog_6_method_5_code 1 (some .int)) rm_T_step_1 [.ref hr] [(hr, .inr (2, [.ref h0, .int (bI false), .int (nI (sl)), .int (nI (bd)), .int (nI (wr)), .int (bI plus), .int (bI first), .int (nI (mk)), .int (nI (rw))])), (h0, .inr (0, [.ref a0, .int (nI (n)), .int (nI (p))])), (a0, .inl (E.2 0, 2640, .inl (f)))] (xRet (some (.int (-3))) [(hr, .inr (2, [.ref h0, .int (bI false), .int (nI (sl + 1)), .int (nI (bd)), .int (nI (wr)), .int (bI plus), .int (bI first), .int (nI (mk)), .int (nI (rw))])), (h0, .inr (0, [.ref a0, .int (nI (n)), .int (nI (p + 1))])), (a0, .inl (E.2 0, 2640, .inl (f)))]) := by
  refine x_of' (own := "LineCoder$TenReceiver") (mn := "step") (lv := [(0, .ref hr)]) (plainFor_of_name (by decide)) rfl rfl (Nat.le_of_ble_eq_true rfl) rfl ?_
  intro p_ e_ s_ m_ ar_ be_ me_ c_ A_ hA hB
  refine x_aload_n 1 hB d_T_step_0 rfl rfl ?_
  refine x_get 4 hB 0 fg_T_29_2 rfl rfl d_T_step_1 rfl ?_
  refine x_if_ne 43 7 hB d_T_step_4 (by decide) rfl (fun hc => absurd (rfl) hc) (fun _ => ?_)
  refine x_aload_n 8 hB d_T_step_7 rfl rfl ?_
  refine x_get 11 hB 0 fg_T_32_2 rfl rfl d_T_step_8 rfl ?_
  refine x_callP (k' := 0) (n' := 0) (rest := []) (st' := [.int (nI (n - p))]) 14 hB (x_pfV (av := []) (q0 := 1) hB w_161 xHd_code w_158 w_159 w_160 rfl rfl nm_L_left rfl d_T_step_11) (c_L_left l E h0 a0 n p hp) w_161 xHd_code w_2 [1] rfl rfl ⟨by decide, by decide⟩ ⟨by decide, by decide⟩ rfl rfl (Nat.le_of_ble_eq_true rfl) d_T_step_11 rfl rfl ?_
  refine x_bipush (v := nI 7) 16 hB d_T_step_14 rfl (by decide) ?_
  refine x_icmp_ge 21 19 hB d_T_step_16 (by decide) rfl (fun _ => ?_) (fun hc => absurd (nI_le (by omega) (by omega)) hc)
  refine x_aload_n 22 hB d_T_step_21 rfl rfl ?_
  refine x_callP (k' := 0) (n' := 0) (rest := []) (st' := [.int (bI (atM f p))]) 25 hB (x_pfV (av := []) (q0 := 0) hB w_165 xHd_code w_162 w_164 s_T_isAtMark rfl rfl nm_T_isAtMark rfl d_T_step_22) (c_T_isAtMark l E hr h0 false plus first sl bd wr mk rw a0 n p f (by omega) hn hb) w_165 xHd_code w_4 [0, 1, 2] rfl rfl ⟨by decide, by decide⟩ ⟨by decide, by decide⟩ rfl rfl (Nat.le_of_ble_eq_true rfl) d_T_step_22 rfl rfl ?_
  refine x_top (v' := .int (nI 0)) (congrArg Value.int (by rw [hM]; rfl)) ?_
  refine x_if_ne 33 28 hB d_T_step_25 (by decide) rfl (fun hc => absurd (by decide) hc) (fun _ => ?_)
  refine x_aload_n 29 hB d_T_step_28 rfl rfl ?_
  refine x_callD (k' := 0) (n' := 0) (rest := []) (wr := [(a0, .inl (E.2 0, 2640, .inl (f)))]) (ws' := [(a0, .inl (E.2 0, 2640, .inl (f))), (hr, .inr (2, [.ref h0, .int (bI false), .int (nI (sl + 1)), .int (nI (bd)), .int (nI (wr)), .int (bI plus), .int (bI first), .int (nI (mk)), .int (nI (rw))])), (h0, .inr (0, [.ref a0, .int (nI (n)), .int (nI (p + 1))]))]) (st' := [.int (-3)]) 32 hB (x_pfU (av := []) (q0 := 0) (x := ⟨"LineCoder$TenReceiver", "slip", "()I"⟩) (owner := "LineCoder$Receiver") hB w_183 xHd_code w_178 w_179 (va_Decl.of (hB.qt _ w_182) (hB.qt _ w_183)) w_182 w_181 rfl rfl (by decide) ⟨⟨by decide +kernel, by decide +kernel⟩, by decide +kernel⟩ rfl d_T_step_29) (c_R_slip_T l E hr h0 false plus first sl bd wr mk rw a0 n p (by omega) hn) w_183 xHd_code w_3 [0, 1] [2] rfl rfl rfl rfl (by decide) ⟨by decide, by decide⟩ ⟨by decide, by decide⟩ rfl rfl (Nat.le_of_ble_eq_true rfl) d_T_step_29 rfl rfl rfl ?_
  exact x_iret hB (w' := [(hr, .inr (2, [.ref h0, .int (bI false), .int (nI (sl + 1)), .int (nI (bd)), .int (nI (wr)), .int (bI plus), .int (bI first), .int (nI (mk)), .int (nI (rw))])), (h0, .inr (0, [.ref a0, .int (nI (n)), .int (nI (p + 1))])), (a0, .inl (E.2 0, 2640, .inl (f)))]) hA [1, 2, 0] rfl rfl (xRet_i) (by decide) (by decide) d_T_step_32
abbrev rm_T_step_2 : Room := { frames := 5, cells := 0, slots := 0, locals := 119 }
set_option maxHeartbeats 4000000 in
set_option maxRecDepth 100000 in
theorem c_T_step_2 (l : Launch) (E : xE) (hr h0 : Nat) (plus first : Bool) (sl bd wr mk rw : Nat) (a0 n p : Nat) (f : Nat → Int32) (hn : n ≤ 2640) (hb : ∀ i, i < n → f i = 0 ∨ f i = 1) (hm : mk < 4) (hw : rw < 4) (hp : p ≤ n) (hc : ¬ n - p < 7) (hc2 : n - p < 10) (hM : atM f p = true) : xC l E y_T_step (.code y_T_step prog_6_method_5_code 1 (some .int)) rm_T_step_2 [.ref hr] [(hr, .inr (2, [.ref h0, .int (bI false), .int (nI (sl)), .int (nI (bd)), .int (nI (wr)), .int (bI plus), .int (bI first), .int (nI (mk)), .int (nI (rw))])), (h0, .inr (0, [.ref a0, .int (nI (n)), .int (nI (p))])), (a0, .inl (E.2 0, 2640, .inl (f)))] (xRet (some (.int (-1))) [(hr, .inr (2, [.ref h0, .int (nI 1), .int (nI (sl)), .int (nI (bd)), .int (nI (wr)), .int (bI plus), .int (nI 1), .int (nI (mk)), .int (nI (rw))])), (h0, .inr (0, [.ref a0, .int (nI (n)), .int (nI (p))])), (a0, .inl (E.2 0, 2640, .inl (f)))]) := by
  refine x_of' (own := "LineCoder$TenReceiver") (mn := "step") (lv := [(0, .ref hr)]) (plainFor_of_name (by decide)) rfl rfl (Nat.le_of_ble_eq_true rfl) rfl ?_
  intro p_ e_ s_ m_ ar_ be_ me_ c_ A_ hA hB
  refine x_aload_n 1 hB d_T_step_0 rfl rfl ?_
  refine x_get 4 hB 0 fg_T_29_2 rfl rfl d_T_step_1 rfl ?_
  refine x_if_ne 43 7 hB d_T_step_4 (by decide) rfl (fun hc => absurd (rfl) hc) (fun _ => ?_)
  refine x_aload_n 8 hB d_T_step_7 rfl rfl ?_
  refine x_get 11 hB 0 fg_T_32_2 rfl rfl d_T_step_8 rfl ?_
  refine x_callP (k' := 0) (n' := 0) (rest := []) (st' := [.int (nI (n - p))]) 14 hB (x_pfV (av := []) (q0 := 1) hB w_161 xHd_code w_158 w_159 w_160 rfl rfl nm_L_left rfl d_T_step_11) (c_L_left l E h0 a0 n p hp) w_161 xHd_code w_2 [1] rfl rfl ⟨by decide, by decide⟩ ⟨by decide, by decide⟩ rfl rfl (Nat.le_of_ble_eq_true rfl) d_T_step_11 rfl rfl ?_
  refine x_bipush (v := nI 7) 16 hB d_T_step_14 rfl (by decide) ?_
  refine x_icmp_ge 21 19 hB d_T_step_16 (by decide) rfl (fun _ => ?_) (fun hc => absurd (nI_le (by omega) (by omega)) hc)
  refine x_aload_n 22 hB d_T_step_21 rfl rfl ?_
  refine x_callP (k' := 0) (n' := 0) (rest := []) (st' := [.int (bI (atM f p))]) 25 hB (x_pfV (av := []) (q0 := 0) hB w_165 xHd_code w_162 w_164 s_T_isAtMark rfl rfl nm_T_isAtMark rfl d_T_step_22) (c_T_isAtMark l E hr h0 false plus first sl bd wr mk rw a0 n p f (by omega) hn hb) w_165 xHd_code w_4 [0, 1, 2] rfl rfl ⟨by decide, by decide⟩ ⟨by decide, by decide⟩ rfl rfl (Nat.le_of_ble_eq_true rfl) d_T_step_22 rfl rfl ?_
  refine x_top (v' := .int (nI 1)) (congrArg Value.int (by rw [hM]; rfl)) ?_
  refine x_if_ne 33 28 hB d_T_step_25 (by decide) rfl (fun _ => ?_) (fun hc => absurd hc (by decide))
  refine x_aload_n 34 hB d_T_step_33 rfl rfl ?_
  refine x_iconst (v := nI 1) 35 hB d_T_step_34 rfl (by decide) ?_
  refine x_put 38 hB 0 (ws' := [(hr, .inr (2, [.ref h0, .int (nI 1), .int (nI (sl)), .int (nI (bd)), .int (nI (wr)), .int (bI plus), .int (bI first), .int (nI (mk)), .int (nI (rw))])), (h0, .inr (0, [.ref a0, .int (nI (n)), .int (nI (p))])), (a0, .inl (E.2 0, 2640, .inl (f)))]) fp_T_29_2 rfl (rfl) (rfl) (Nat.le_of_ble_eq_true rfl) rfl d_T_step_35 rfl ?_
  refine x_aload_n 39 hB d_T_step_38 rfl rfl ?_
  refine x_iconst (v := nI 1) 40 hB d_T_step_39 rfl (by decide) ?_
  refine x_put 43 hB 0 (ws' := [(hr, .inr (2, [.ref h0, .int (nI 1), .int (nI (sl)), .int (nI (bd)), .int (nI (wr)), .int (bI plus), .int (nI 1), .int (nI (mk)), .int (nI (rw))])), (h0, .inr (0, [.ref a0, .int (nI (n)), .int (nI (p))])), (a0, .inl (E.2 0, 2640, .inl (f)))]) fp_T_15_2 rfl (rfl) (rfl) (Nat.le_of_ble_eq_true rfl) rfl d_T_step_40 rfl ?_
  refine x_aload_n 44 hB d_T_step_43 rfl rfl ?_
  refine x_get 47 hB 0 fg_T_32_2 rfl rfl d_T_step_44 rfl ?_
  refine x_callP (k' := 0) (n' := 0) (rest := []) (st' := [.int (nI (n - p))]) 50 hB (x_pfV (av := []) (q0 := 1) hB w_161 xHd_code w_158 w_159 w_160 rfl rfl nm_L_left rfl d_T_step_47) (c_L_left l E h0 a0 n p hp) w_161 xHd_code w_2 [1] rfl rfl ⟨by decide, by decide⟩ ⟨by decide, by decide⟩ rfl rfl (Nat.le_of_ble_eq_true rfl) d_T_step_47 rfl rfl ?_
  refine x_bipush (v := nI 10) 52 hB d_T_step_50 rfl (by decide) ?_
  refine x_icmp_ge 59 55 hB d_T_step_52 (by decide) rfl (fun hc => absurd hc (nI_ge (by omega) (by omega))) (fun _ => ?_)
  refine x_iconst (v := (-1 : Int32)) 56 hB d_T_step_55 rfl (by decide) ?_
  refine x_goto 63 hB d_T_step_56 (by decide) ?_
  exact x_iret hB (w' := [(hr, .inr (2, [.ref h0, .int (nI 1), .int (nI (sl)), .int (nI (bd)), .int (nI (wr)), .int (bI plus), .int (nI 1), .int (nI (mk)), .int (nI (rw))])), (h0, .inr (0, [.ref a0, .int (nI (n)), .int (nI (p))])), (a0, .inl (E.2 0, 2640, .inl (f)))]) hA [0, 1, 2] rfl rfl (xRet_i) (by decide) (by decide) d_T_step_63
abbrev rm_T_step_3 : Room := { frames := 5, cells := 0, slots := 0, locals := 119 }
set_option maxHeartbeats 4000000 in
set_option maxRecDepth 100000 in
theorem c_T_step_3 (l : Launch) (E : xE) (hr h0 : Nat) (plus first : Bool) (sl bd wr mk rw : Nat) (a0 n p : Nat) (f : Nat → Int32) (hn : n ≤ 2640) (hb : ∀ i, i < n → f i = 0 ∨ f i = 1) (hm : mk < 4) (hw : rw < 4) (hp : p ≤ n) (hc2 : ¬ n - p < 10) (hM : atM f p = true) : xC l E y_T_step (.code y_T_step prog_6_method_5_code 1 (some .int)) rm_T_step_3 [.ref hr] [(hr, .inr (2, [.ref h0, .int (bI false), .int (nI (sl)), .int (nI (bd)), .int (nI (wr)), .int (bI plus), .int (bI first), .int (nI (mk)), .int (nI (rw))])), (h0, .inr (0, [.ref a0, .int (nI (n)), .int (nI (p))])), (a0, .inl (E.2 0, 2640, .inl (f)))] (xRet (some (.int (tkR (ahN f p 10) plus true))) [(hr, .inr (2, [.ref h0, .int (bI (tkO true mk (tkK (ahN f p 10) plus true))), .int (nI (sl)), .int (nI (bd + (if (tkK (ahN f p 10) plus true) = 1 then 1 else 0))), .int (nI (wr + (if (tkK (ahN f p 10) plus true) = 2 then 1 else 0))), .int (bI (tkP (ahN f p 10) plus true)), .int (nI 0), .int (nI (tkM mk rw (tkK (ahN f p 10) plus true))), .int (nI (tkW rw (tkK (ahN f p 10) plus true)))])), (h0, .inr (0, [.ref a0, .int (nI (n)), .int (nI (p + 10))])), (a0, .inl (E.2 0, 2640, .inl (f)))]) := by
  refine x_of' (own := "LineCoder$TenReceiver") (mn := "step") (lv := [(0, .ref hr)]) (plainFor_of_name (by decide)) rfl rfl (Nat.le_of_ble_eq_true rfl) rfl ?_
  intro p_ e_ s_ m_ ar_ be_ me_ c_ A_ hA hB
  refine x_aload_n 1 hB d_T_step_0 rfl rfl ?_
  refine x_get 4 hB 0 fg_T_29_2 rfl rfl d_T_step_1 rfl ?_
  refine x_if_ne 43 7 hB d_T_step_4 (by decide) rfl (fun hc => absurd (rfl) hc) (fun _ => ?_)
  refine x_aload_n 8 hB d_T_step_7 rfl rfl ?_
  refine x_get 11 hB 0 fg_T_32_2 rfl rfl d_T_step_8 rfl ?_
  refine x_callP (k' := 0) (n' := 0) (rest := []) (st' := [.int (nI (n - p))]) 14 hB (x_pfV (av := []) (q0 := 1) hB w_161 xHd_code w_158 w_159 w_160 rfl rfl nm_L_left rfl d_T_step_11) (c_L_left l E h0 a0 n p hp) w_161 xHd_code w_2 [1] rfl rfl ⟨by decide, by decide⟩ ⟨by decide, by decide⟩ rfl rfl (Nat.le_of_ble_eq_true rfl) d_T_step_11 rfl rfl ?_
  refine x_bipush (v := nI 7) 16 hB d_T_step_14 rfl (by decide) ?_
  refine x_icmp_ge 21 19 hB d_T_step_16 (by decide) rfl (fun _ => ?_) (fun hc => absurd (nI_le (by omega) (by omega)) hc)
  refine x_aload_n 22 hB d_T_step_21 rfl rfl ?_
  refine x_callP (k' := 0) (n' := 0) (rest := []) (st' := [.int (bI (atM f p))]) 25 hB (x_pfV (av := []) (q0 := 0) hB w_165 xHd_code w_162 w_164 s_T_isAtMark rfl rfl nm_T_isAtMark rfl d_T_step_22) (c_T_isAtMark l E hr h0 false plus first sl bd wr mk rw a0 n p f (by omega) hn hb) w_165 xHd_code w_4 [0, 1, 2] rfl rfl ⟨by decide, by decide⟩ ⟨by decide, by decide⟩ rfl rfl (Nat.le_of_ble_eq_true rfl) d_T_step_22 rfl rfl ?_
  refine x_top (v' := .int (nI 1)) (congrArg Value.int (by rw [hM]; rfl)) ?_
  refine x_if_ne 33 28 hB d_T_step_25 (by decide) rfl (fun _ => ?_) (fun hc => absurd hc (by decide))
  refine x_aload_n 34 hB d_T_step_33 rfl rfl ?_
  refine x_iconst (v := nI 1) 35 hB d_T_step_34 rfl (by decide) ?_
  refine x_put 38 hB 0 (ws' := [(hr, .inr (2, [.ref h0, .int (nI 1), .int (nI (sl)), .int (nI (bd)), .int (nI (wr)), .int (bI plus), .int (bI first), .int (nI (mk)), .int (nI (rw))])), (h0, .inr (0, [.ref a0, .int (nI (n)), .int (nI (p))])), (a0, .inl (E.2 0, 2640, .inl (f)))]) fp_T_29_2 rfl (rfl) (rfl) (Nat.le_of_ble_eq_true rfl) rfl d_T_step_35 rfl ?_
  refine x_aload_n 39 hB d_T_step_38 rfl rfl ?_
  refine x_iconst (v := nI 1) 40 hB d_T_step_39 rfl (by decide) ?_
  refine x_put 43 hB 0 (ws' := [(hr, .inr (2, [.ref h0, .int (nI 1), .int (nI (sl)), .int (nI (bd)), .int (nI (wr)), .int (bI plus), .int (nI 1), .int (nI (mk)), .int (nI (rw))])), (h0, .inr (0, [.ref a0, .int (nI (n)), .int (nI (p))])), (a0, .inl (E.2 0, 2640, .inl (f)))]) fp_T_15_2 rfl (rfl) (rfl) (Nat.le_of_ble_eq_true rfl) rfl d_T_step_40 rfl ?_
  refine x_aload_n 44 hB d_T_step_43 rfl rfl ?_
  refine x_get 47 hB 0 fg_T_32_2 rfl rfl d_T_step_44 rfl ?_
  refine x_callP (k' := 0) (n' := 0) (rest := []) (st' := [.int (nI (n - p))]) 50 hB (x_pfV (av := []) (q0 := 1) hB w_161 xHd_code w_158 w_159 w_160 rfl rfl nm_L_left rfl d_T_step_47) (c_L_left l E h0 a0 n p hp) w_161 xHd_code w_2 [1] rfl rfl ⟨by decide, by decide⟩ ⟨by decide, by decide⟩ rfl rfl (Nat.le_of_ble_eq_true rfl) d_T_step_47 rfl rfl ?_
  refine x_bipush (v := nI 10) 52 hB d_T_step_50 rfl (by decide) ?_
  refine x_icmp_ge 59 55 hB d_T_step_52 (by decide) rfl (fun _ => ?_) (fun hc => absurd (nI_le (by omega) (by omega)) hc)
  refine x_aload_n 60 hB d_T_step_59 rfl rfl ?_
  refine x_callD (k' := 0) (n' := 0) (rest := []) (wr := []) (ws' := [(hr, .inr (2, [.ref h0, .int (bI (tkO true mk (tkK (ahN f p 10) plus true))), .int (nI (sl)), .int (nI (bd + (if (tkK (ahN f p 10) plus true) = 1 then 1 else 0))), .int (nI (wr + (if (tkK (ahN f p 10) plus true) = 2 then 1 else 0))), .int (bI (tkP (ahN f p 10) plus true)), .int (nI 0), .int (nI (tkM mk rw (tkK (ahN f p 10) plus true))), .int (nI (tkW rw (tkK (ahN f p 10) plus true)))])), (h0, .inr (0, [.ref a0, .int (nI (n)), .int (nI (p + 10))])), (a0, .inl (E.2 0, 2640, .inl (f)))]) (st' := [.int (tkR (ahN f p 10) plus true)]) 63 hB (x_pfV (av := []) (q0 := 0) hB w_195 xHd_code w_192 w_194 s_T_takeTen rfl rfl nm_T_takeTen rfl d_T_step_60) (c_T_takeTen l E hr h0 true plus true sl bd wr mk rw a0 n p f (by omega) hn hb hm hw) w_195 xHd_code w_4 [0, 1, 2] [] rfl rfl rfl rfl (by decide) ⟨by decide, by decide⟩ ⟨by decide, by decide⟩ rfl rfl (Nat.le_of_ble_eq_true rfl) d_T_step_60 rfl rfl rfl ?_
  exact x_iret hB (w' := [(hr, .inr (2, [.ref h0, .int (bI (tkO true mk (tkK (ahN f p 10) plus true))), .int (nI (sl)), .int (nI (bd + (if (tkK (ahN f p 10) plus true) = 1 then 1 else 0))), .int (nI (wr + (if (tkK (ahN f p 10) plus true) = 2 then 1 else 0))), .int (bI (tkP (ahN f p 10) plus true)), .int (nI 0), .int (nI (tkM mk rw (tkK (ahN f p 10) plus true))), .int (nI (tkW rw (tkK (ahN f p 10) plus true)))])), (h0, .inr (0, [.ref a0, .int (nI (n)), .int (nI (p + 10))])), (a0, .inl (E.2 0, 2640, .inl (f)))]) hA [0, 1, 2] rfl rfl (xRet_i) (by decide) (by decide) d_T_step_63
abbrev rm_T_step_4 : Room := { frames := 5, cells := 0, slots := 0, locals := 119 }
set_option maxHeartbeats 4000000 in
set_option maxRecDepth 100000 in
theorem c_T_step_4 (l : Launch) (E : xE) (hr h0 : Nat) (plus first : Bool) (sl bd wr mk rw : Nat) (a0 n p : Nat) (f : Nat → Int32) (hn : n ≤ 2640) (hb : ∀ i, i < n → f i = 0 ∨ f i = 1) (hm : mk < 4) (hw : rw < 4) (hp : p ≤ n) (hc2 : n - p < 10) : xC l E y_T_step (.code y_T_step prog_6_method_5_code 1 (some .int)) rm_T_step_4 [.ref hr] [(hr, .inr (2, [.ref h0, .int (bI true), .int (nI (sl)), .int (nI (bd)), .int (nI (wr)), .int (bI plus), .int (bI first), .int (nI (mk)), .int (nI (rw))])), (h0, .inr (0, [.ref a0, .int (nI (n)), .int (nI (p))])), (a0, .inl (E.2 0, 2640, .inl (f)))] (xRet (some (.int (-1))) [(hr, .inr (2, [.ref h0, .int (bI true), .int (nI (sl)), .int (nI (bd)), .int (nI (wr)), .int (bI plus), .int (bI first), .int (nI (mk)), .int (nI (rw))])), (h0, .inr (0, [.ref a0, .int (nI (n)), .int (nI (p))])), (a0, .inl (E.2 0, 2640, .inl (f)))]) := by
  refine x_of' (own := "LineCoder$TenReceiver") (mn := "step") (lv := [(0, .ref hr)]) (plainFor_of_name (by decide)) rfl rfl (Nat.le_of_ble_eq_true rfl) rfl ?_
  intro p_ e_ s_ m_ ar_ be_ me_ c_ A_ hA hB
  refine x_aload_n 1 hB d_T_step_0 rfl rfl ?_
  refine x_get 4 hB 0 fg_T_29_2 rfl rfl d_T_step_1 rfl ?_
  refine x_if_ne 43 7 hB d_T_step_4 (by decide) rfl (fun _ => ?_) (fun hc => absurd hc (by decide))
  refine x_aload_n 44 hB d_T_step_43 rfl rfl ?_
  refine x_get 47 hB 0 fg_T_32_2 rfl rfl d_T_step_44 rfl ?_
  refine x_callP (k' := 0) (n' := 0) (rest := []) (st' := [.int (nI (n - p))]) 50 hB (x_pfV (av := []) (q0 := 1) hB w_161 xHd_code w_158 w_159 w_160 rfl rfl nm_L_left rfl d_T_step_47) (c_L_left l E h0 a0 n p hp) w_161 xHd_code w_2 [1] rfl rfl ⟨by decide, by decide⟩ ⟨by decide, by decide⟩ rfl rfl (Nat.le_of_ble_eq_true rfl) d_T_step_47 rfl rfl ?_
  refine x_bipush (v := nI 10) 52 hB d_T_step_50 rfl (by decide) ?_
  refine x_icmp_ge 59 55 hB d_T_step_52 (by decide) rfl (fun hc => absurd hc (nI_ge (by omega) (by omega))) (fun _ => ?_)
  refine x_iconst (v := (-1 : Int32)) 56 hB d_T_step_55 rfl (by decide) ?_
  refine x_goto 63 hB d_T_step_56 (by decide) ?_
  exact x_iret hB (w' := [(hr, .inr (2, [.ref h0, .int (bI true), .int (nI (sl)), .int (nI (bd)), .int (nI (wr)), .int (bI plus), .int (bI first), .int (nI (mk)), .int (nI (rw))])), (h0, .inr (0, [.ref a0, .int (nI (n)), .int (nI (p))])), (a0, .inl (E.2 0, 2640, .inl (f)))]) hA [0, 1, 2] rfl rfl (xRet_i) (by decide) (by decide) d_T_step_63
abbrev rm_T_step_5 : Room := { frames := 5, cells := 0, slots := 0, locals := 119 }
set_option maxHeartbeats 4000000 in
set_option maxRecDepth 100000 in
theorem c_T_step_5 (l : Launch) (E : xE) (hr h0 : Nat) (plus first : Bool) (sl bd wr mk rw : Nat) (a0 n p : Nat) (f : Nat → Int32) (hn : n ≤ 2640) (hb : ∀ i, i < n → f i = 0 ∨ f i = 1) (hm : mk < 4) (hw : rw < 4) (hp : p ≤ n) (hc2 : ¬ n - p < 10) : xC l E y_T_step (.code y_T_step prog_6_method_5_code 1 (some .int)) rm_T_step_5 [.ref hr] [(hr, .inr (2, [.ref h0, .int (bI true), .int (nI (sl)), .int (nI (bd)), .int (nI (wr)), .int (bI plus), .int (bI first), .int (nI (mk)), .int (nI (rw))])), (h0, .inr (0, [.ref a0, .int (nI (n)), .int (nI (p))])), (a0, .inl (E.2 0, 2640, .inl (f)))] (xRet (some (.int (tkR (ahN f p 10) plus first))) [(hr, .inr (2, [.ref h0, .int (bI (tkO true mk (tkK (ahN f p 10) plus first))), .int (nI (sl)), .int (nI (bd + (if (tkK (ahN f p 10) plus first) = 1 then 1 else 0))), .int (nI (wr + (if (tkK (ahN f p 10) plus first) = 2 then 1 else 0))), .int (bI (tkP (ahN f p 10) plus first)), .int (nI 0), .int (nI (tkM mk rw (tkK (ahN f p 10) plus first))), .int (nI (tkW rw (tkK (ahN f p 10) plus first)))])), (h0, .inr (0, [.ref a0, .int (nI (n)), .int (nI (p + 10))])), (a0, .inl (E.2 0, 2640, .inl (f)))]) := by
  refine x_of' (own := "LineCoder$TenReceiver") (mn := "step") (lv := [(0, .ref hr)]) (plainFor_of_name (by decide)) rfl rfl (Nat.le_of_ble_eq_true rfl) rfl ?_
  intro p_ e_ s_ m_ ar_ be_ me_ c_ A_ hA hB
  refine x_aload_n 1 hB d_T_step_0 rfl rfl ?_
  refine x_get 4 hB 0 fg_T_29_2 rfl rfl d_T_step_1 rfl ?_
  refine x_if_ne 43 7 hB d_T_step_4 (by decide) rfl (fun _ => ?_) (fun hc => absurd hc (by decide))
  refine x_aload_n 44 hB d_T_step_43 rfl rfl ?_
  refine x_get 47 hB 0 fg_T_32_2 rfl rfl d_T_step_44 rfl ?_
  refine x_callP (k' := 0) (n' := 0) (rest := []) (st' := [.int (nI (n - p))]) 50 hB (x_pfV (av := []) (q0 := 1) hB w_161 xHd_code w_158 w_159 w_160 rfl rfl nm_L_left rfl d_T_step_47) (c_L_left l E h0 a0 n p hp) w_161 xHd_code w_2 [1] rfl rfl ⟨by decide, by decide⟩ ⟨by decide, by decide⟩ rfl rfl (Nat.le_of_ble_eq_true rfl) d_T_step_47 rfl rfl ?_
  refine x_bipush (v := nI 10) 52 hB d_T_step_50 rfl (by decide) ?_
  refine x_icmp_ge 59 55 hB d_T_step_52 (by decide) rfl (fun _ => ?_) (fun hc => absurd (nI_le (by omega) (by omega)) hc)
  refine x_aload_n 60 hB d_T_step_59 rfl rfl ?_
  refine x_callD (k' := 0) (n' := 0) (rest := []) (wr := []) (ws' := [(hr, .inr (2, [.ref h0, .int (bI (tkO true mk (tkK (ahN f p 10) plus first))), .int (nI (sl)), .int (nI (bd + (if (tkK (ahN f p 10) plus first) = 1 then 1 else 0))), .int (nI (wr + (if (tkK (ahN f p 10) plus first) = 2 then 1 else 0))), .int (bI (tkP (ahN f p 10) plus first)), .int (nI 0), .int (nI (tkM mk rw (tkK (ahN f p 10) plus first))), .int (nI (tkW rw (tkK (ahN f p 10) plus first)))])), (h0, .inr (0, [.ref a0, .int (nI (n)), .int (nI (p + 10))])), (a0, .inl (E.2 0, 2640, .inl (f)))]) (st' := [.int (tkR (ahN f p 10) plus first)]) 63 hB (x_pfV (av := []) (q0 := 0) hB w_195 xHd_code w_192 w_194 s_T_takeTen rfl rfl nm_T_takeTen rfl d_T_step_60) (c_T_takeTen l E hr h0 true plus first sl bd wr mk rw a0 n p f (by omega) hn hb hm hw) w_195 xHd_code w_4 [0, 1, 2] [] rfl rfl rfl rfl (by decide) ⟨by decide, by decide⟩ ⟨by decide, by decide⟩ rfl rfl (Nat.le_of_ble_eq_true rfl) d_T_step_60 rfl rfl rfl ?_
  exact x_iret hB (w' := [(hr, .inr (2, [.ref h0, .int (bI (tkO true mk (tkK (ahN f p 10) plus first))), .int (nI (sl)), .int (nI (bd + (if (tkK (ahN f p 10) plus first) = 1 then 1 else 0))), .int (nI (wr + (if (tkK (ahN f p 10) plus first) = 2 then 1 else 0))), .int (bI (tkP (ahN f p 10) plus first)), .int (nI 0), .int (nI (tkM mk rw (tkK (ahN f p 10) plus first))), .int (nI (tkW rw (tkK (ahN f p 10) plus first)))])), (h0, .inr (0, [.ref a0, .int (nI (n)), .int (nI (p + 10))])), (a0, .inl (E.2 0, 2640, .inl (f)))]) hA [0, 1, 2] rfl rfl (xRet_i) (by decide) (by decide) d_T_step_63
set_option maxHeartbeats 4000000 in
theorem c_T_step (l : Launch) (E : xE) (hr h0 : Nat) (fo plus first : Bool) (sl bd wr mk rw : Nat) (a0 n p : Nat) (f : Nat → Int32) (hn : n ≤ 2640) (hb : ∀ i, i < n → f i = 0 ∨ f i = 1) (hm : mk < 4) (hw : rw < 4) (hp : p ≤ n) : xC l E y_T_step (.code y_T_step prog_6_method_5_code 1 (some .int)) rm_T_step_0 [.ref hr] [(hr, .inr (2, [.ref h0, .int (bI fo), .int (nI (sl)), .int (nI (bd)), .int (nI (wr)), .int (bI plus), .int (bI first), .int (nI (mk)), .int (nI (rw))])), (h0, .inr (0, [.ref a0, .int (nI (n)), .int (nI (p))])), (a0, .inl (E.2 0, 2640, .inl (f)))] (xRet (some (.int (rcR (rcC f n p fo) (ahN f p 10) plus first))) [(hr, .inr (2, [.ref h0, .int (bI (rcO (rcC f n p fo) (ahN f p 10) plus first mk)), .int (nI (rcS (rcC f n p fo) sl)), .int (nI (rcN 1 (rcC f n p fo) (ahN f p 10) plus first bd)), .int (nI (rcN 2 (rcC f n p fo) (ahN f p 10) plus first wr)), .int (bI (rcP (rcC f n p fo) (ahN f p 10) plus first)), .int (bI (rcF (rcC f n p fo) first)), .int (nI (rcM (rcC f n p fo) (ahN f p 10) plus first mk rw)), .int (nI (rcW (rcC f n p fo) (ahN f p 10) plus first rw))])), (h0, .inr (0, [.ref a0, .int (nI (n)), .int (nI (rcL (rcC f n p fo) p))])), (a0, .inl (E.2 0, 2640, .inl (f)))]) := by
  cases fo with
  | false =>
    by_cases hc : n - p < 7
    · have e : rcC f n p false = 0 := by simp [rcC, hc]
      rw [e]
      exact c_T_step_0 l E hr h0 plus first sl bd wr mk rw a0 n p f hn hb hm hw hp hc
    · cases hM : atM f p with
      | false =>
        have e : rcC f n p false = 1 := by simp [rcC, hc, hM]
        rw [e]
        exact c_T_step_1 l E hr h0 plus first sl bd wr mk rw a0 n p f hn hb hm hw hp hc hM
      | true =>
        by_cases hc2 : n - p < 10
        · have e : rcC f n p false = 2 := by simp [rcC, hc, hM, hc2]
          rw [e]
          exact c_T_step_2 l E hr h0 plus first sl bd wr mk rw a0 n p f hn hb hm hw hp hc hc2 hM
        · have e : rcC f n p false = 3 := by simp [rcC, hc, hM, hc2]
          rw [e]
          exact c_T_step_3 l E hr h0 plus first sl bd wr mk rw a0 n p f hn hb hm hw hp hc2 hM
  | true =>
    by_cases hc2 : n - p < 10
    · have e : rcC f n p true = 4 := by simp [rcC, hc2]
      rw [e]
      exact c_T_step_4 l E hr h0 plus first sl bd wr mk rw a0 n p f hn hb hm hw hp hc2
    · have e : rcC f n p true = 5 := by simp [rcC, hc2]
      rw [e]
      exact c_T_step_5 l E hr h0 plus first sl bd wr mk rw a0 n p f hn hb hm hw hp hc2
end
section
/-! the pure side of the receiver of words -/
def wlF (la : Int32) (good : Bool) : Int32 := ((la <<< (nI 1 &&& 31)) ||| (if good then nI 0 else nI 1)) &&& 65535
def lt4 (x : Int32) : Bool := decide (bcF x < nI 4)
/-- the stirrer's past and the word, i bits taken from p on -/
def twF (f : Nat → Int32) (p : Nat) (w : Int64) : Nat → Int64 × Int64
  | 0 => (w, 0)
  | i + 1 => (remF (twF f p w i).1 (f (p + i)), (twF f p w i).2 ||| ((f (p + i) ^^^ turF (twF f p w i).1).toInt64 <<< ((nI i).toInt64 &&& 63)))
theorem ah1 {f : Nat → Int32} {q : Nat} (h : f q = 0 ∨ f q = 1) : ahF f q 1 = f q := by
  show (nI 0 <<< (nI 1 &&& 31)) ||| f (q + 0) = f q
  rw [Nat.add_zero]
  rcases h with h | h <;> rw [h] <;> decide
def gdF (f : Nat → Int32) (p : Nat) : Bool := decide (ahN f p 2 = 1 ∨ ahN f p 2 = 2)
def wcC (f : Nat → Int32) (n p : Nat) (fo : Bool) : Nat := if n - p < 66 then 0 else if fo then (if gdF f p then 3 else 4) else if gdF f p then 2 else 1
def wcR (c h : Nat) : Int32 := match c with
  | 0 => (-1 : Int32)
  | 1 => (-3 : Int32)
  | 2 => bI (decide (h = 2))
  | 3 => bI (decide (h = 2))
  | _ => (-2 : Int32)
def wcO (c : Nat) (fo : Bool) (gr : Nat) (la : Int32) : Bool := match c with
  | 0 => fo
  | 1 => false
  | 2 => decide (8 ≤ gr + 1)
  | 3 => lt4 (wlF la true)
  | _ => lt4 (wlF la false)
def wcG (c gr : Nat) (la : Int32) : Nat := match c with
  | 0 => gr
  | 1 => 0
  | 2 => gr + 1
  | 3 => if lt4 (wlF la true) then gr else 0
  | _ => if lt4 (wlF la false) then gr else 0
def wcA (c gr : Nat) (la : Int32) : Int32 := match c with
  | 0 => la
  | 1 => la
  | 2 => if 8 ≤ gr + 1 then nI 0 else la
  | 3 => wlF la true
  | _ => wlF la false
def wcS (c sl : Nat) : Nat := match c with
  | 1 => sl + 1
  | _ => sl
def wcB (c bd : Nat) : Nat := match c with
  | 4 => bd + 1
  | _ => bd
def wcP (c : Nat) (f : Nat → Int32) (p : Nat) (w : Int64) : Int64 := match c with
  | 0 => w
  | 1 => w
  | _ => (twF f (p + 2) w 64).1
def wcT (c : Nat) (f : Nat → Int32) (p : Nat) (w last : Int64) : Int64 := match c with
  | 0 => last
  | 1 => last
  | _ => (twF f (p + 2) w 64).2
def wcL (c p : Nat) : Nat := match c with
  | 0 => p
  | 1 => p + 1
  | _ => p + 66
end
section
abbrev rm_W_marks : Room := { frames := 1, cells := 0, slots := 0, locals := 20 }
set_option maxHeartbeats 4000000 in
set_option maxRecDepth 100000 in
theorem c_W_marks (l : Launch) (E : xE) (hr h0 hs : Nat) (fo : Bool) (sl bd wr gr : Nat) (la : Int32) (last : Int64) : xCp l E y_W_marks (.code y_W_marks prog_8_method_4_code 1 (some .int)) rm_W_marks [.ref hr] [(hr, .inr (3, [.ref h0, .int (bI fo), .int (nI (sl)), .int (nI (bd)), .int (nI (wr)), .ref hs, .int (nI (gr)), .int (la), .long (last)]))] (.inl (some (.int (if fo then bcF la else nI gr)))) := by
  refine x_ofP (own := "LineCoder$WordReceiver") (mn := "marks") (lv := [(0, .ref hr)]) (plainFor_of_name (by decide)) rfl rfl (Nat.le_of_ble_eq_true rfl) rfl ?_
  intro p_ e_ s_ m_ ar_ be_ me_ c_ hB
  refine x_aload_n 1 hB d_W_marks_0 rfl rfl ?_
  refine x_get 4 hB 0 fg_W_37_3 rfl rfl d_W_marks_1 rfl ?_
  refine x_if_eq 17 7 hB d_W_marks_4 (by decide) rfl (fun h4 => ?_) (fun h4 => ?_)
  · skip
    have k4 : fo = false := bI_0 h4
    refine x_aload_n 18 hB d_W_marks_17 rfl rfl ?_
    refine x_get 21 hB 0 fg_W_20_3 rfl rfl d_W_marks_18 rfl ?_
    exact x_iretP hB (sVe (by rw [k4]; rfl)) (by decide) (by decide) d_W_marks_21
  · skip
    have k4 : fo = true := bI_1 h4
    refine x_aload_n 8 hB d_W_marks_7 rfl rfl ?_
    refine x_get 11 hB 0 fg_W_24_3 rfl rfl d_W_marks_8 rfl ?_
    refine x_callP (k' := 0) (n' := 0) (rest := []) (st' := [.int (bcF la)]) 14 hB (x_pfS (av := [.int (la)]) hB w_210 xHd_code w_13 w_289 w_209 nm_JI_bitCount rfl d_W_marks_11) (c_JI_bitCount l E la) w_210 xHd_code w_13 [] rfl rfl ⟨by decide, by decide⟩ ⟨by decide, by decide⟩ rfl rfl (Nat.le_of_ble_eq_true rfl) d_W_marks_11 rfl rfl ?_
    refine x_goto 21 hB d_W_marks_14 (by decide) ?_
    exact x_iretP hB (sVe (by rw [k4]; rfl)) (by decide) (by decide) d_W_marks_21
abbrev rm_W_gain : Room := { frames := 0, cells := 0, slots := 0, locals := 0 }
set_option maxHeartbeats 4000000 in
set_option maxRecDepth 100000 in
theorem c_W_gain (l : Launch) (E : xE) (hr h0 hs : Nat) (fo : Bool) (sl bd wr gr : Nat) (la : Int32) (last : Int64) (hg : gr ≤ 8) : xC l E y_W_gain (.code y_W_gain prog_8_method_7_code 1 none) rm_W_gain [.ref hr] [(hr, .inr (3, [.ref h0, .int (bI fo), .int (nI (sl)), .int (nI (bd)), .int (nI (wr)), .ref hs, .int (nI (gr)), .int (la), .long (last)]))] (xRet none [(hr, .inr (3, [.ref h0, .int (bI (if 8 ≤ gr + 1 then true else fo)), .int (nI (sl)), .int (nI (bd)), .int (nI (wr)), .ref hs, .int (nI (gr + 1)), .int (if 8 ≤ gr + 1 then nI 0 else la), .long (last)]))]) := by
  refine x_of' (own := "LineCoder$WordReceiver") (mn := "gain") (lv := [(0, .ref hr)]) (plainFor_of_name (by decide)) rfl rfl (Nat.le_of_ble_eq_true rfl) rfl ?_
  intro p_ e_ s_ m_ ar_ be_ me_ c_ A_ hA hB
  refine x_aload_n 1 hB d_W_gain_0 rfl rfl ?_
  refine x_dup 2 hB d_W_gain_1 rfl rfl ?_
  refine x_get 5 hB 0 fg_W_20_3 rfl rfl d_W_gain_2 rfl ?_
  refine x_iconst (v := nI 1) 6 hB d_W_gain_5 rfl (by decide) ?_
  refine x_iadd 7 hB d_W_gain_6 rfl ?_
  refine x_top (v' := .int (nI (gr + 1))) (congrArg Value.int (nI_add gr 1)) ?_
  refine x_put 10 hB 0 (ws' := [(hr, .inr (3, [.ref h0, .int (bI fo), .int (nI (sl)), .int (nI (bd)), .int (nI (wr)), .ref hs, .int (nI (gr + 1)), .int (la), .long (last)]))]) fp_W_20_3 rfl (rfl) (rfl) (Nat.le_of_ble_eq_true rfl) rfl d_W_gain_7 rfl ?_
  refine x_aload_n 11 hB d_W_gain_10 rfl rfl ?_
  refine x_get 14 hB 0 fg_W_20_3 rfl rfl d_W_gain_11 rfl ?_
  refine x_bipush (v := nI 8) 16 hB d_W_gain_14 rfl (by decide) ?_
  refine x_icmp_lt 29 19 hB d_W_gain_16 (by decide) rfl (fun h16 => ?_) (fun h16 => ?_)
  · skip
    have k16 : (gr + 1) < 8 := (nI_ltI (by omega) (by omega)).mp h16
    exact x_vret hB (w' := [(hr, .inr (3, [.ref h0, .int (bI fo), .int (nI (sl)), .int (nI (bd)), .int (nI (wr)), .ref hs, .int (nI (gr + 1)), .int (la), .long (last)]))]) hA [0] rfl rfl (⟨rfl, by rw [if_neg (by omega), if_neg (by omega)]⟩) (by decide) (by decide) d_W_gain_29
  · skip
    have k16 : ¬ (gr + 1) < 8 := fun h => h16 ((nI_ltI (by omega) (by omega)).mpr h)
    refine x_aload_n 20 hB d_W_gain_19 rfl rfl ?_
    refine x_iconst (v := nI 1) 21 hB d_W_gain_20 rfl (by decide) ?_
    refine x_put 24 hB 0 (ws' := [(hr, .inr (3, [.ref h0, .int (nI 1), .int (nI (sl)), .int (nI (bd)), .int (nI (wr)), .ref hs, .int (nI (gr + 1)), .int (la), .long (last)]))]) fp_W_37_3 rfl (rfl) (rfl) (Nat.le_of_ble_eq_true rfl) rfl d_W_gain_21 rfl ?_
    refine x_aload_n 25 hB d_W_gain_24 rfl rfl ?_
    refine x_iconst (v := nI 0) 26 hB d_W_gain_25 rfl (by decide) ?_
    refine x_put 29 hB 0 (ws' := [(hr, .inr (3, [.ref h0, .int (nI 1), .int (nI (sl)), .int (nI (bd)), .int (nI (wr)), .ref hs, .int (nI (gr + 1)), .int (nI 0), .long (last)]))]) fp_W_24_3 rfl (rfl) (rfl) (Nat.le_of_ble_eq_true rfl) rfl d_W_gain_26 rfl ?_
    exact x_vret hB (w' := [(hr, .inr (3, [.ref h0, .int (nI 1), .int (nI (sl)), .int (nI (bd)), .int (nI (wr)), .ref hs, .int (nI (gr + 1)), .int (nI 0), .long (last)]))]) hA [0] rfl rfl (⟨rfl, by rw [if_pos (by omega), if_pos (by omega)]; rfl⟩) (by decide) (by decide) d_W_gain_29
abbrev rm_W_watch_true : Room := { frames := 1, cells := 0, slots := 0, locals := 20 }
set_option maxHeartbeats 4000000 in
set_option maxRecDepth 100000 in
theorem c_W_watch_true (l : Launch) (E : xE) (hr h0 hs : Nat) (fo : Bool) (sl bd wr gr : Nat) (la : Int32) (last : Int64) : xC l E y_W_watch (.code y_W_watch prog_8_method_8_code 2 none) rm_W_watch_true [.ref hr, .int (nI 1)] [(hr, .inr (3, [.ref h0, .int (bI fo), .int (nI (sl)), .int (nI (bd)), .int (nI (wr)), .ref hs, .int (nI (gr)), .int (la), .long (last)]))] (xRet none [(hr, .inr (3, [.ref h0, .int (bI (if lt4 (wlF la true) then fo else false)), .int (nI (sl)), .int (nI (bd)), .int (nI (wr)), .ref hs, .int (nI (if lt4 (wlF la true) then gr else 0)), .int (wlF la true), .long (last)]))]) := by
  refine x_of' (own := "LineCoder$WordReceiver") (mn := "watch") (lv := [(0, .ref hr), (1, .int (nI 1))]) (plainFor_of_name (by decide)) rfl rfl (Nat.le_of_ble_eq_true rfl) rfl ?_
  intro p_ e_ s_ m_ ar_ be_ me_ c_ A_ hA hB
  refine x_aload_n 1 hB d_W_watch_0 rfl rfl ?_
  refine x_aload_n 2 hB d_W_watch_1 rfl rfl ?_
  refine x_get 5 hB 0 fg_W_24_3 rfl rfl d_W_watch_2 rfl ?_
  refine x_iconst (v := nI 1) 6 hB d_W_watch_5 rfl (by decide) ?_
  refine x_ishl 7 hB d_W_watch_6 rfl ?_
  refine x_iload_n 8 hB d_W_watch_7 rfl rfl ?_
  refine x_if_eq 15 11 hB d_W_watch_8 (by decide) rfl (fun hc => absurd hc (by decide)) (fun _ => ?_)
  refine x_iconst (v := nI 0) 12 hB d_W_watch_11 rfl (by decide) ?_
  refine x_goto 16 hB d_W_watch_12 (by decide) ?_
  refine x_ior 17 hB d_W_watch_16 rfl ?_
  refine x_ldc 19 hB d_W_watch_17 rfl w_288 ?_
  refine x_iand 20 hB d_W_watch_19 rfl ?_
  refine x_top (v' := .int (wlF la true)) (congrArg Value.int (rfl)) ?_
  refine x_put 23 hB 0 (ws' := [(hr, .inr (3, [.ref h0, .int (bI fo), .int (nI (sl)), .int (nI (bd)), .int (nI (wr)), .ref hs, .int (nI (gr)), .int (wlF la true), .long (last)]))]) fp_W_24_3 rfl (rfl) (rfl) (Nat.le_of_ble_eq_true rfl) rfl d_W_watch_20 rfl ?_
  refine x_aload_n 24 hB d_W_watch_23 rfl rfl ?_
  refine x_get 27 hB 0 fg_W_24_3 rfl rfl d_W_watch_24 rfl ?_
  refine x_callP (k' := 0) (n' := 0) (rest := []) (st' := [.int (bcF (wlF la true))]) 30 hB (x_pfS (av := [.int (wlF la true)]) hB w_210 xHd_code w_13 w_289 w_209 nm_JI_bitCount rfl d_W_watch_27) (c_JI_bitCount l E (wlF la true)) w_210 xHd_code w_13 [] rfl rfl ⟨by decide, by decide⟩ ⟨by decide, by decide⟩ rfl rfl (Nat.le_of_ble_eq_true rfl) d_W_watch_27 rfl rfl ?_
  refine x_iconst (v := nI 4) 31 hB d_W_watch_30 rfl (by decide) ?_
  refine x_icmp_lt 44 34 hB d_W_watch_31 (by decide) rfl (fun h31 => ?_) (fun h31 => ?_)
  · skip
    have k31 : lt4 (wlF la true) = true := decide_eq_true h31
    exact x_vret hB (w' := [(hr, .inr (3, [.ref h0, .int (bI fo), .int (nI (sl)), .int (nI (bd)), .int (nI (wr)), .ref hs, .int (nI (gr)), .int (wlF la true), .long (last)]))]) hA [0] rfl rfl (⟨rfl, by rw [k31]; rfl⟩) (by decide) (by decide) d_W_watch_44
  · skip
    have k31 : lt4 (wlF la true) = false := decide_eq_false h31
    refine x_aload_n 35 hB d_W_watch_34 rfl rfl ?_
    refine x_iconst (v := nI 0) 36 hB d_W_watch_35 rfl (by decide) ?_
    refine x_put 39 hB 0 (ws' := [(hr, .inr (3, [.ref h0, .int (nI 0), .int (nI (sl)), .int (nI (bd)), .int (nI (wr)), .ref hs, .int (nI (gr)), .int (wlF la true), .long (last)]))]) fp_W_37_3 rfl (rfl) (rfl) (Nat.le_of_ble_eq_true rfl) rfl d_W_watch_36 rfl ?_
    refine x_aload_n 40 hB d_W_watch_39 rfl rfl ?_
    refine x_iconst (v := nI 0) 41 hB d_W_watch_40 rfl (by decide) ?_
    refine x_put 44 hB 0 (ws' := [(hr, .inr (3, [.ref h0, .int (nI 0), .int (nI (sl)), .int (nI (bd)), .int (nI (wr)), .ref hs, .int (nI 0), .int (wlF la true), .long (last)]))]) fp_W_20_3 rfl (rfl) (rfl) (Nat.le_of_ble_eq_true rfl) rfl d_W_watch_41 rfl ?_
    exact x_vret hB (w' := [(hr, .inr (3, [.ref h0, .int (nI 0), .int (nI (sl)), .int (nI (bd)), .int (nI (wr)), .ref hs, .int (nI 0), .int (wlF la true), .long (last)]))]) hA [0] rfl rfl (⟨rfl, by rw [k31]; rfl⟩) (by decide) (by decide) d_W_watch_44
abbrev rm_W_watch_false : Room := { frames := 1, cells := 0, slots := 0, locals := 20 }
set_option maxHeartbeats 4000000 in
set_option maxRecDepth 100000 in
theorem c_W_watch_false (l : Launch) (E : xE) (hr h0 hs : Nat) (fo : Bool) (sl bd wr gr : Nat) (la : Int32) (last : Int64) : xC l E y_W_watch (.code y_W_watch prog_8_method_8_code 2 none) rm_W_watch_false [.ref hr, .int (nI 0)] [(hr, .inr (3, [.ref h0, .int (bI fo), .int (nI (sl)), .int (nI (bd)), .int (nI (wr)), .ref hs, .int (nI (gr)), .int (la), .long (last)]))] (xRet none [(hr, .inr (3, [.ref h0, .int (bI (if lt4 (wlF la false) then fo else false)), .int (nI (sl)), .int (nI (bd)), .int (nI (wr)), .ref hs, .int (nI (if lt4 (wlF la false) then gr else 0)), .int (wlF la false), .long (last)]))]) := by
  refine x_of' (own := "LineCoder$WordReceiver") (mn := "watch") (lv := [(0, .ref hr), (1, .int (nI 0))]) (plainFor_of_name (by decide)) rfl rfl (Nat.le_of_ble_eq_true rfl) rfl ?_
  intro p_ e_ s_ m_ ar_ be_ me_ c_ A_ hA hB
  refine x_aload_n 1 hB d_W_watch_0 rfl rfl ?_
  refine x_aload_n 2 hB d_W_watch_1 rfl rfl ?_
  refine x_get 5 hB 0 fg_W_24_3 rfl rfl d_W_watch_2 rfl ?_
  refine x_iconst (v := nI 1) 6 hB d_W_watch_5 rfl (by decide) ?_
  refine x_ishl 7 hB d_W_watch_6 rfl ?_
  refine x_iload_n 8 hB d_W_watch_7 rfl rfl ?_
  refine x_if_eq 15 11 hB d_W_watch_8 (by decide) rfl (fun _ => ?_) (fun hc => absurd (by decide) hc)
  refine x_iconst (v := nI 1) 16 hB d_W_watch_15 rfl (by decide) ?_
  refine x_ior 17 hB d_W_watch_16 rfl ?_
  refine x_ldc 19 hB d_W_watch_17 rfl w_288 ?_
  refine x_iand 20 hB d_W_watch_19 rfl ?_
  refine x_top (v' := .int (wlF la false)) (congrArg Value.int (rfl)) ?_
  refine x_put 23 hB 0 (ws' := [(hr, .inr (3, [.ref h0, .int (bI fo), .int (nI (sl)), .int (nI (bd)), .int (nI (wr)), .ref hs, .int (nI (gr)), .int (wlF la false), .long (last)]))]) fp_W_24_3 rfl (rfl) (rfl) (Nat.le_of_ble_eq_true rfl) rfl d_W_watch_20 rfl ?_
  refine x_aload_n 24 hB d_W_watch_23 rfl rfl ?_
  refine x_get 27 hB 0 fg_W_24_3 rfl rfl d_W_watch_24 rfl ?_
  refine x_callP (k' := 0) (n' := 0) (rest := []) (st' := [.int (bcF (wlF la false))]) 30 hB (x_pfS (av := [.int (wlF la false)]) hB w_210 xHd_code w_13 w_289 w_209 nm_JI_bitCount rfl d_W_watch_27) (c_JI_bitCount l E (wlF la false)) w_210 xHd_code w_13 [] rfl rfl ⟨by decide, by decide⟩ ⟨by decide, by decide⟩ rfl rfl (Nat.le_of_ble_eq_true rfl) d_W_watch_27 rfl rfl ?_
  refine x_iconst (v := nI 4) 31 hB d_W_watch_30 rfl (by decide) ?_
  refine x_icmp_lt 44 34 hB d_W_watch_31 (by decide) rfl (fun h31 => ?_) (fun h31 => ?_)
  · skip
    have k31 : lt4 (wlF la false) = true := decide_eq_true h31
    exact x_vret hB (w' := [(hr, .inr (3, [.ref h0, .int (bI fo), .int (nI (sl)), .int (nI (bd)), .int (nI (wr)), .ref hs, .int (nI (gr)), .int (wlF la false), .long (last)]))]) hA [0] rfl rfl (⟨rfl, by rw [k31]; rfl⟩) (by decide) (by decide) d_W_watch_44
  · skip
    have k31 : lt4 (wlF la false) = false := decide_eq_false h31
    refine x_aload_n 35 hB d_W_watch_34 rfl rfl ?_
    refine x_iconst (v := nI 0) 36 hB d_W_watch_35 rfl (by decide) ?_
    refine x_put 39 hB 0 (ws' := [(hr, .inr (3, [.ref h0, .int (nI 0), .int (nI (sl)), .int (nI (bd)), .int (nI (wr)), .ref hs, .int (nI (gr)), .int (wlF la false), .long (last)]))]) fp_W_37_3 rfl (rfl) (rfl) (Nat.le_of_ble_eq_true rfl) rfl d_W_watch_36 rfl ?_
    refine x_aload_n 40 hB d_W_watch_39 rfl rfl ?_
    refine x_iconst (v := nI 0) 41 hB d_W_watch_40 rfl (by decide) ?_
    refine x_put 44 hB 0 (ws' := [(hr, .inr (3, [.ref h0, .int (nI 0), .int (nI (sl)), .int (nI (bd)), .int (nI (wr)), .ref hs, .int (nI 0), .int (wlF la false), .long (last)]))]) fp_W_20_3 rfl (rfl) (rfl) (Nat.le_of_ble_eq_true rfl) rfl d_W_watch_41 rfl ?_
    exact x_vret hB (w' := [(hr, .inr (3, [.ref h0, .int (nI 0), .int (nI (sl)), .int (nI (bd)), .int (nI (wr)), .ref hs, .int (nI 0), .int (wlF la false), .long (last)]))]) hA [0] rfl rfl (⟨rfl, by rw [k31]; rfl⟩) (by decide) (by decide) d_W_watch_44
abbrev rm_W_takeWord : Room := { frames := 3, cells := 0, slots := 0, locals := 65 }
set_option maxHeartbeats 4000000 in
set_option maxRecDepth 100000 in
theorem c_W_takeWord (l : Launch) (E : xE) (hr h0 hs : Nat) (fo : Bool) (sl bd wr gr : Nat) (la : Int32) (last : Int64) (a0 n p : Nat) (f : Nat → Int32) (w : Int64) (hp : p + 66 ≤ n) (hn : n ≤ 2640) (hb : ∀ i, i < n → f i = 0 ∨ f i = 1) : xC l E y_W_takeWord (.code y_W_takeWord prog_8_method_6_code 6 none) rm_W_takeWord [.ref hr] [(hr, .inr (3, [.ref h0, .int (bI fo), .int (nI (sl)), .int (nI (bd)), .int (nI (wr)), .ref hs, .int (nI (gr)), .int (la), .long (last)])), (h0, .inr (0, [.ref a0, .int (nI (n)), .int (nI (p))])), (a0, .inl (E.2 0, 2640, .inl (f))), (hs, .inr (1, [.long (w)]))] (xRet none [(hr, .inr (3, [.ref h0, .int (bI fo), .int (nI (sl)), .int (nI (bd)), .int (nI (wr)), .ref hs, .int (nI (gr)), .int (la), .long ((twF f (p + 2) w 64).2)])), (h0, .inr (0, [.ref a0, .int (nI (n)), .int (nI (p + 66))])), (a0, .inl (E.2 0, 2640, .inl (f))), (hs, .inr (1, [.long ((twF f (p + 2) w 64).1)]))]) := by
  refine x_of' (own := "LineCoder$WordReceiver") (mn := "takeWord") (lv := [(0, .ref hr)]) (plainFor_of_name (by decide)) rfl rfl (Nat.le_of_ble_eq_true rfl) rfl ?_
  intro p_ e_ s_ m_ ar_ be_ me_ c_ A_ hA hB
  refine x_aload_n 1 hB d_W_takeWord_0 rfl rfl ?_
  refine x_get 4 hB 0 fg_W_47_3 rfl rfl d_W_takeWord_1 rfl ?_
  refine x_iconst (v := nI 2) 5 hB d_W_takeWord_4 rfl (by decide) ?_
  refine x_callD (k' := 0) (n' := 0) (rest := []) (wr := [(hr, .inr (3, [.ref h0, .int (bI fo), .int (nI (sl)), .int (nI (bd)), .int (nI (wr)), .ref hs, .int (nI (gr)), .int (la), .long (last)])), (a0, .inl (E.2 0, 2640, .inl (f))), (hs, .inr (1, [.long (w)]))]) (ws' := [(hr, .inr (3, [.ref h0, .int (bI fo), .int (nI (sl)), .int (nI (bd)), .int (nI (wr)), .ref hs, .int (nI (gr)), .int (la), .long (last)])), (a0, .inl (E.2 0, 2640, .inl (f))), (hs, .inr (1, [.long (w)])), (h0, .inr (0, [.ref a0, .int (nI (n)), .int (nI (p + 2))]))]) (st' := []) 8 hB (x_pfV (av := [.int (nI 2)]) (q0 := 1) hB w_187 xHd_code w_271 w_185 w_186 rfl rfl nm_L_advance rfl d_W_takeWord_5) (c_L_advance l E h0 a0 n p 2 (by omega) hn) w_187 xHd_code w_2 [1] [0, 2, 3] rfl rfl rfl rfl (by decide) ⟨by decide, by decide⟩ ⟨by decide, by decide⟩ rfl rfl (Nat.le_of_ble_eq_true rfl) d_W_takeWord_5 rfl rfl rfl ?_
  refine x_lconst (v := 0) 9 hB d_W_takeWord_8 rfl (by decide) ?_
  refine x_lstore_n 10 hB d_W_takeWord_9 rfl (by decide) (lv' := [(1, .long (0)), (0, .ref hr)]) rfl ?_
  refine x_iconst (v := nI 0) 11 hB d_W_takeWord_10 rfl (by decide) ?_
  refine x_istore_n 12 hB d_W_takeWord_11 rfl (by decide) (lv' := [(3, .int (nI 0)), (1, .long (0)), (0, .ref hr)]) rfl ?_
  refine x_lv (lv' := [(0, .ref hr), (1, .long (0)), (3, .int (nI 0))]) [2, 1, 0] rfl ?_
  refine x_loop (fun i : Nat => i ≤ 64) (fun i : Nat => 64 - i) (fun i : Nat => [(hr, .inr (3, [.ref h0, .int (bI fo), .int (nI (sl)), .int (nI (bd)), .int (nI (wr)), .ref hs, .int (nI (gr)), .int (la), .long (last)])), (a0, .inl (E.2 0, 2640, .inl (f))), (hs, .inr (1, [.long ((twF f (p + 2) w i).1)])), (h0, .inr (0, [.ref a0, .int (nI (n)), .int (nI (p + 2 + i))]))]) (fun i : Nat => [(0, .ref hr), (1, .long ((twF f (p + 2) w i).2)), (3, .int (nI (i)))]) (fun i : Nat => []) 0 (Nat.zero_le _) rfl rfl rfl (fun i hI12 IH12 => ?_)
  refine x_iload_n 13 hB d_W_takeWord_12 rfl rfl ?_
  refine x_bipush (v := nI 64) 15 hB d_W_takeWord_13 rfl (by decide) ?_
  refine x_icmp_ge 57 18 hB d_W_takeWord_15 (by decide) rfl (fun h15 => ?_) (fun h15 => ?_)
  · skip
    have hi : 64 = i := by have := (nI_leI (by omega) (by omega)).mp h15; omega
    subst hi
    refine x_aload_n 58 hB d_W_takeWord_57 rfl rfl ?_
    refine x_lload_n 59 hB d_W_takeWord_58 rfl rfl ?_
    refine x_put 62 hB 0 (ws' := [(hr, .inr (3, [.ref h0, .int (bI fo), .int (nI (sl)), .int (nI (bd)), .int (nI (wr)), .ref hs, .int (nI (gr)), .int (la), .long ((twF f (p + 2) w 64).2)])), (a0, .inl (E.2 0, 2640, .inl (f))), (hs, .inr (1, [.long ((twF f (p + 2) w 64).1)])), (h0, .inr (0, [.ref a0, .int (nI (n)), .int (nI (p + 2 + 64))]))]) fp_W_27_3 rfl (rfl) (rfl) (Nat.le_of_ble_eq_true rfl) rfl d_W_takeWord_59 rfl ?_
    exact x_vret hB (w' := [(hr, .inr (3, [.ref h0, .int (bI fo), .int (nI (sl)), .int (nI (bd)), .int (nI (wr)), .ref hs, .int (nI (gr)), .int (la), .long ((twF f (p + 2) w 64).2)])), (h0, .inr (0, [.ref a0, .int (nI (n)), .int (nI (p + 2 + 64))])), (a0, .inl (E.2 0, 2640, .inl (f))), (hs, .inr (1, [.long ((twF f (p + 2) w 64).1)]))]) hA [0, 3, 1, 2] rfl rfl (xRet_i) (by decide) (by decide) d_W_takeWord_62
  · skip
    have k15 : i < 64 := Nat.lt_of_not_le (fun h => h15 (nI_le h (by omega)))
    refine x_aload_n 19 hB d_W_takeWord_18 rfl rfl ?_
    refine x_get 22 hB 0 fg_W_14_3 rfl rfl d_W_takeWord_19 rfl ?_
    refine x_aload_n 23 hB d_W_takeWord_22 rfl rfl ?_
    refine x_get 26 hB 0 fg_W_47_3 rfl rfl d_W_takeWord_23 rfl ?_
    refine x_iconst (v := nI 1) 27 hB d_W_takeWord_26 rfl (by decide) ?_
    refine x_callP (k' := 0) (n' := 0) (rest := [.ref hs]) (st' := [.int (ahF f (p + 2 + i) 1), .ref hs]) 30 hB (x_pfV (av := [.int (nI 1)]) (q0 := 3) hB w_169 xHd_code w_263 w_167 w_168 rfl rfl nm_L_ahead rfl d_W_takeWord_27) (c_L_ahead l E h0 a0 n (p + 2 + i) f 1 (by omega) hn hb) w_169 xHd_code w_2 [3, 1] rfl rfl ⟨by decide, by decide⟩ ⟨by decide, by decide⟩ rfl rfl (Nat.le_of_ble_eq_true rfl) d_W_takeWord_27 rfl rfl ?_
    refine x_top (v' := .int (f (p + 2 + i))) (congrArg Value.int (ah1 (hb _ (by omega)))) ?_
    refine x_callD (k' := 0) (n' := 0) (rest := []) (wr := [(hr, .inr (3, [.ref h0, .int (bI fo), .int (nI (sl)), .int (nI (bd)), .int (nI (wr)), .ref hs, .int (nI (gr)), .int (la), .long (last)])), (a0, .inl (E.2 0, 2640, .inl (f))), (h0, .inr (0, [.ref a0, .int (nI (n)), .int (nI (p + 2 + i))]))]) (ws' := [(hr, .inr (3, [.ref h0, .int (bI fo), .int (nI (sl)), .int (nI (bd)), .int (nI (wr)), .ref hs, .int (nI (gr)), .int (la), .long (last)])), (a0, .inl (E.2 0, 2640, .inl (f))), (h0, .inr (0, [.ref a0, .int (nI (n)), .int (nI (p + 2 + i))])), (hs, .inr (1, [.long ((twF f (p + 2) w (i + 1)).1)]))]) (st' := [.int (f (p + 2 + i) ^^^ turF (twF f (p + 2) w i).1)]) 33 hB (x_pfV (av := [.int (f (p + 2 + i))]) (q0 := 2) hB w_275 xHd_code w_272 w_273 w_274 rfl rfl nm_S_stirBack rfl d_W_takeWord_30) (c_S_stirBack l E hs (twF f (p + 2) w i).1 (f (p + 2 + i))) w_275 xHd_code w_6 [2] [0, 1, 3] rfl rfl rfl rfl (by decide) ⟨by decide, by decide⟩ ⟨by decide, by decide⟩ rfl rfl (Nat.le_of_ble_eq_true rfl) d_W_takeWord_30 rfl rfl rfl ?_
    refine x_i2l (v := (f (p + 2 + i) ^^^ turF (twF f (p + 2) w i).1).toInt64) 34 hB d_W_takeWord_33 rfl (rfl) ?_
    refine x_lstore 36 hB d_W_takeWord_34 rfl (by decide) (lv' := [(4, .long ((f (p + 2 + i) ^^^ turF (twF f (p + 2) w i).1).toInt64)), (0, .ref hr), (1, .long ((twF f (p + 2) w i).2)), (3, .int (nI (i)))]) rfl ?_
    refine x_aload_n 37 hB d_W_takeWord_36 rfl rfl ?_
    refine x_get 40 hB 0 fg_W_47_3 rfl rfl d_W_takeWord_37 rfl ?_
    refine x_iconst (v := nI 1) 41 hB d_W_takeWord_40 rfl (by decide) ?_
    refine x_callD (k' := 0) (n' := 0) (rest := []) (wr := [(hr, .inr (3, [.ref h0, .int (bI fo), .int (nI (sl)), .int (nI (bd)), .int (nI (wr)), .ref hs, .int (nI (gr)), .int (la), .long (last)])), (a0, .inl (E.2 0, 2640, .inl (f))), (hs, .inr (1, [.long ((twF f (p + 2) w (i + 1)).1)]))]) (ws' := [(hr, .inr (3, [.ref h0, .int (bI fo), .int (nI (sl)), .int (nI (bd)), .int (nI (wr)), .ref hs, .int (nI (gr)), .int (la), .long (last)])), (a0, .inl (E.2 0, 2640, .inl (f))), (hs, .inr (1, [.long ((twF f (p + 2) w (i + 1)).1)])), (h0, .inr (0, [.ref a0, .int (nI (n)), .int (nI (p + 2 + (i + 1)))]))]) (st' := []) 44 hB (x_pfV (av := [.int (nI 1)]) (q0 := 2) hB w_187 xHd_code w_271 w_185 w_186 rfl rfl nm_L_advance rfl d_W_takeWord_41) (c_L_advance l E h0 a0 n (p + 2 + i) 1 (by omega) hn) w_187 xHd_code w_2 [2] [0, 1, 3] rfl rfl rfl rfl (by decide) ⟨by decide, by decide⟩ ⟨by decide, by decide⟩ rfl rfl (Nat.le_of_ble_eq_true rfl) d_W_takeWord_41 rfl rfl rfl ?_
    refine x_lload_n 45 hB d_W_takeWord_44 rfl rfl ?_
    refine x_lload 47 hB d_W_takeWord_45 rfl rfl ?_
    refine x_iload_n 48 hB d_W_takeWord_47 rfl rfl ?_
    refine x_lshl (v := (f (p + 2 + i) ^^^ turF (twF f (p + 2) w i).1).toInt64 <<< ((nI i).toInt64 &&& 63)) 49 hB d_W_takeWord_48 rfl (rfl) ?_
    refine x_lor 50 hB d_W_takeWord_49 rfl ?_
    refine x_top (v' := .long ((twF f (p + 2) w (i + 1)).2)) (congrArg Value.long (rfl)) ?_
    refine x_lstore_n 51 hB d_W_takeWord_50 rfl (by decide) (lv' := [(1, .long ((twF f (p + 2) w (i + 1)).2)), (4, .long ((f (p + 2 + i) ^^^ turF (twF f (p + 2) w i).1).toInt64)), (0, .ref hr), (3, .int (nI (i)))]) rfl ?_
    refine x_iinc (v := nI (i + 1)) 54 hB d_W_takeWord_51 rfl 3 rfl ((nI_succ i).symm) (by decide) (lv' := [(3, .int (nI (i + 1))), (1, .long ((twF f (p + 2) w (i + 1)).2)), (4, .long ((f (p + 2 + i) ^^^ turF (twF f (p + 2) w i).1).toInt64)), (0, .ref hr)]) rfl ?_
    refine x_goto 12 hB d_W_takeWord_54 (by decide) ?_
    refine x_lv (lv' := [(0, .ref hr), (1, .long ((twF f (p + 2) w (i + 1)).2)), (3, .int (nI (i + 1)))]) [3, 1, 0] rfl ?_
    exact IH12 (i + 1) k15 (by omega)
abbrev rm_W_step_0 : Room := { frames := 4, cells := 0, slots := 0, locals := 90 }
set_option maxHeartbeats 4000000 in
set_option maxRecDepth 100000 in
theorem c_W_step_0 (l : Launch) (E : xE) (hr h0 hs : Nat) (fo : Bool) (sl bd wr gr : Nat) (la : Int32) (last : Int64) (a0 n p : Nat) (f : Nat → Int32) (w : Int64) (hn : n ≤ 2640) (hb : ∀ i, i < n → f i = 0 ∨ f i = 1) (hg : gr ≤ 8) (hp : p ≤ n) (hc : n - p < 66) : xC l E y_W_step (.code y_W_step prog_8_method_5_code 3 (some .int)) rm_W_step_0 [.ref hr] [(hr, .inr (3, [.ref h0, .int (bI fo), .int (nI (sl)), .int (nI (bd)), .int (nI (wr)), .ref hs, .int (nI (gr)), .int (la), .long (last)])), (h0, .inr (0, [.ref a0, .int (nI (n)), .int (nI (p))])), (a0, .inl (E.2 0, 2640, .inl (f))), (hs, .inr (1, [.long (w)]))] (xRet (some (.int (-1))) [(hr, .inr (3, [.ref h0, .int (bI fo), .int (nI (sl)), .int (nI (bd)), .int (nI (wr)), .ref hs, .int (nI (gr)), .int (la), .long (last)])), (h0, .inr (0, [.ref a0, .int (nI (n)), .int (nI (p))])), (a0, .inl (E.2 0, 2640, .inl (f))), (hs, .inr (1, [.long (w)]))]) := by
  refine x_of' (own := "LineCoder$WordReceiver") (mn := "step") (lv := [(0, .ref hr)]) (plainFor_of_name (by decide)) rfl rfl (Nat.le_of_ble_eq_true rfl) rfl ?_
  intro p_ e_ s_ m_ ar_ be_ me_ c_ A_ hA hB
  refine x_aload_n 1 hB d_W_step_0 rfl rfl ?_
  refine x_get 4 hB 0 fg_W_47_3 rfl rfl d_W_step_1 rfl ?_
  refine x_callP (k' := 0) (n' := 0) (rest := []) (st' := [.int (nI (n - p))]) 7 hB (x_pfV (av := []) (q0 := 1) hB w_161 xHd_code w_262 w_159 w_160 rfl rfl nm_L_left rfl d_W_step_4) (c_L_left l E h0 a0 n p hp) w_161 xHd_code w_2 [1] rfl rfl ⟨by decide, by decide⟩ ⟨by decide, by decide⟩ rfl rfl (Nat.le_of_ble_eq_true rfl) d_W_step_4 rfl rfl ?_
  refine x_bipush (v := nI 66) 9 hB d_W_step_7 rfl (by decide) ?_
  refine x_icmp_ge 14 12 hB d_W_step_9 (by decide) rfl (fun hc => absurd hc (nI_ge (by omega) (by omega))) (fun _ => ?_)
  refine x_iconst (v := (-1 : Int32)) 13 hB d_W_step_12 rfl (by decide) ?_
  exact x_iret hB (w' := [(hr, .inr (3, [.ref h0, .int (bI fo), .int (nI (sl)), .int (nI (bd)), .int (nI (wr)), .ref hs, .int (nI (gr)), .int (la), .long (last)])), (h0, .inr (0, [.ref a0, .int (nI (n)), .int (nI (p))])), (a0, .inl (E.2 0, 2640, .inl (f))), (hs, .inr (1, [.long (w)]))]) hA [0, 1, 2, 3] rfl rfl (xRet_i) (by decide) (by decide) d_W_step_13
abbrev rm_W_step_1 : Room := { frames := 4, cells := 0, slots := 0, locals := 90 }
set_option maxHeartbeats 4000000 in
set_option maxRecDepth 100000 in
theorem c_W_step_1 (l : Launch) (E : xE) (hr h0 hs : Nat) (sl bd wr gr : Nat) (la : Int32) (last : Int64) (a0 n p : Nat) (f : Nat → Int32) (w : Int64) (hn : n ≤ 2640) (hb : ∀ i, i < n → f i = 0 ∨ f i = 1) (hg : gr ≤ 8) (hp : p ≤ n) (hc : ¬ n - p < 66) (hG : gdF f p = false) : xC l E y_W_step (.code y_W_step prog_8_method_5_code 3 (some .int)) rm_W_step_1 [.ref hr] [(hr, .inr (3, [.ref h0, .int (bI false), .int (nI (sl)), .int (nI (bd)), .int (nI (wr)), .ref hs, .int (nI (gr)), .int (la), .long (last)])), (h0, .inr (0, [.ref a0, .int (nI (n)), .int (nI (p))])), (a0, .inl (E.2 0, 2640, .inl (f))), (hs, .inr (1, [.long (w)]))] (xRet (some (.int (-3))) [(hr, .inr (3, [.ref h0, .int (bI false), .int (nI (sl + 1)), .int (nI (bd)), .int (nI (wr)), .ref hs, .int (nI 0), .int (la), .long (last)])), (h0, .inr (0, [.ref a0, .int (nI (n)), .int (nI (p + 1))])), (a0, .inl (E.2 0, 2640, .inl (f))), (hs, .inr (1, [.long (w)]))]) := by
  refine x_of' (own := "LineCoder$WordReceiver") (mn := "step") (lv := [(0, .ref hr)]) (plainFor_of_name (by decide)) rfl rfl (Nat.le_of_ble_eq_true rfl) rfl ?_
  intro p_ e_ s_ m_ ar_ be_ me_ c_ A_ hA hB
  refine x_aload_n 1 hB d_W_step_0 rfl rfl ?_
  refine x_get 4 hB 0 fg_W_47_3 rfl rfl d_W_step_1 rfl ?_
  refine x_callP (k' := 0) (n' := 0) (rest := []) (st' := [.int (nI (n - p))]) 7 hB (x_pfV (av := []) (q0 := 1) hB w_161 xHd_code w_262 w_159 w_160 rfl rfl nm_L_left rfl d_W_step_4) (c_L_left l E h0 a0 n p hp) w_161 xHd_code w_2 [1] rfl rfl ⟨by decide, by decide⟩ ⟨by decide, by decide⟩ rfl rfl (Nat.le_of_ble_eq_true rfl) d_W_step_4 rfl rfl ?_
  refine x_bipush (v := nI 66) 9 hB d_W_step_7 rfl (by decide) ?_
  refine x_icmp_ge 14 12 hB d_W_step_9 (by decide) rfl (fun _ => ?_) (fun hc => absurd (nI_le (by omega) (by omega)) hc)
  refine x_aload_n 15 hB d_W_step_14 rfl rfl ?_
  refine x_get 18 hB 0 fg_W_47_3 rfl rfl d_W_step_15 rfl ?_
  refine x_iconst (v := nI 2) 19 hB d_W_step_18 rfl (by decide) ?_
  refine x_callP (k' := 0) (n' := 0) (rest := []) (st' := [.int (ahF f p 2)]) 22 hB (x_pfV (av := [.int (nI 2)]) (q0 := 1) hB w_169 xHd_code w_263 w_167 w_168 rfl rfl nm_L_ahead rfl d_W_step_19) (c_L_ahead l E h0 a0 n p f 2 (by omega) hn hb) w_169 xHd_code w_2 [1, 2] rfl rfl ⟨by decide, by decide⟩ ⟨by decide, by decide⟩ rfl rfl (Nat.le_of_ble_eq_true rfl) d_W_step_19 rfl rfl ?_
  refine x_top (v' := .int (nI (ahN f p 2))) (congrArg Value.int (ah_e hb 2 (by omega) (by omega))) ?_
  have hl2 : ahN f p 2 < 4 := ahN_lt f p 2
  refine x_istore_n 23 hB d_W_step_22 rfl (by decide) (lv' := [(1, .int (nI (ahN f p 2))), (0, .ref hr)]) rfl ?_
  refine x_join 38 (fun _u : Unit => True) (fun _u : Unit => [(hr, .inr (3, [.ref h0, .int (bI false), .int (nI (sl)), .int (nI (bd)), .int (nI (wr)), .ref hs, .int (nI (gr)), .int (la), .long (last)])), (h0, .inr (0, [.ref a0, .int (nI (n)), .int (nI (p))])), (a0, .inl (E.2 0, 2640, .inl (f))), (hs, .inr (1, [.long (w)]))]) (fun _u : Unit => [(0, .ref hr), (1, .int (nI (ahN f p 2)))]) (fun _u : Unit => [.int (nI 0)]) (fun _u hJ38 => ?_) (fun J38 => ?_)
  · skip
    refine x_istore_n 39 hB d_W_step_38 rfl (by decide) (lv' := [(2, .int (nI 0)), (0, .ref hr), (1, .int (nI (ahN f p 2)))]) rfl ?_
    refine x_aload_n 40 hB d_W_step_39 rfl rfl ?_
    refine x_get 43 hB 0 fg_W_37_3 rfl rfl d_W_step_40 rfl ?_
    refine x_if_ne 60 46 hB d_W_step_43 (by decide) rfl (fun hc => absurd (rfl) hc) (fun _ => ?_)
    refine x_iload_n 47 hB d_W_step_46 rfl rfl ?_
    refine x_if_ne 60 50 hB d_W_step_47 (by decide) rfl (fun hc => absurd (by decide) hc) (fun _ => ?_)
    refine x_aload_n 51 hB d_W_step_50 rfl rfl ?_
    refine x_iconst (v := nI 0) 52 hB d_W_step_51 rfl (by decide) ?_
    refine x_put 55 hB 0 (ws' := [(hr, .inr (3, [.ref h0, .int (bI false), .int (nI (sl)), .int (nI (bd)), .int (nI (wr)), .ref hs, .int (nI 0), .int (la), .long (last)])), (h0, .inr (0, [.ref a0, .int (nI (n)), .int (nI (p))])), (a0, .inl (E.2 0, 2640, .inl (f))), (hs, .inr (1, [.long (w)]))]) fp_W_20_3 rfl (rfl) (rfl) (Nat.le_of_ble_eq_true rfl) rfl d_W_step_52 rfl ?_
    refine x_aload_n 56 hB d_W_step_55 rfl rfl ?_
    refine x_callD (k' := 0) (n' := 0) (rest := []) (wr := [(a0, .inl (E.2 0, 2640, .inl (f))), (hs, .inr (1, [.long (w)]))]) (ws' := [(a0, .inl (E.2 0, 2640, .inl (f))), (hs, .inr (1, [.long (w)])), (hr, .inr (3, [.ref h0, .int (bI false), .int (nI (sl + 1)), .int (nI (bd)), .int (nI (wr)), .ref hs, .int (nI 0), .int (la), .long (last)])), (h0, .inr (0, [.ref a0, .int (nI (n)), .int (nI (p + 1))]))]) (st' := [.int (-3)]) 59 hB (x_pfU (av := []) (q0 := 0) (x := ⟨"LineCoder$WordReceiver", "slip", "()I"⟩) (owner := "LineCoder$Receiver") hB w_183 xHd_code w_264 w_265 (va_Decl.of (hB.qt _ w_182) (hB.qt _ w_183)) w_182 w_266 rfl rfl (by decide) ⟨⟨by decide +kernel, by decide +kernel⟩, by decide +kernel⟩ rfl d_W_step_56) (c_R_slip_W l E hr h0 hs false sl bd wr 0 la last a0 n p (by omega) hn) w_183 xHd_code w_3 [0, 1] [2, 3] rfl rfl rfl rfl (by decide) ⟨by decide, by decide⟩ ⟨by decide, by decide⟩ rfl rfl (Nat.le_of_ble_eq_true rfl) d_W_step_56 rfl rfl rfl ?_
    exact x_iret hB (w' := [(hr, .inr (3, [.ref h0, .int (bI false), .int (nI (sl + 1)), .int (nI (bd)), .int (nI (wr)), .ref hs, .int (nI 0), .int (la), .long (last)])), (h0, .inr (0, [.ref a0, .int (nI (n)), .int (nI (p + 1))])), (a0, .inl (E.2 0, 2640, .inl (f))), (hs, .inr (1, [.long (w)]))]) hA [2, 3, 0, 1] rfl rfl (xRet_i) (by decide) (by decide) d_W_step_59
  refine x_iload_n 24 hB d_W_step_23 rfl rfl ?_
  refine x_iconst (v := nI 1) 25 hB d_W_step_24 rfl (by decide) ?_
  refine x_icmp_eq 33 28 hB d_W_step_25 (by decide) rfl (fun h25 => ?_) (fun h25 => ?_)
  · skip
    have k25 : ahN f p 2 = 1 := (nI_eq (by omega) (by omega)).mp h25
    refine x_iconst (v := nI 1) 34 hB d_W_step_33 rfl (by decide) ?_
    refine x_top (v' := .int (nI 0)) (congrArg Value.int (absurd (decide_eq_true (Or.inl k25)) (by rw [show decide _ = gdF f p from rfl, hG]; decide))) ?_
    refine x_goto 38 hB d_W_step_34 (by decide) ?_
    refine x_lv (lv' := [(0, .ref hr), (1, .int (nI (ahN f p 2)))]) [1, 0] rfl ?_
    exact J38 () trivial
  · skip
    have k25 : ¬ ahN f p 2 = 1 := fun h => h25 ((nI_eq (by omega) (by omega)).mpr h)
    refine x_iload_n 29 hB d_W_step_28 rfl rfl ?_
    refine x_iconst (v := nI 2) 30 hB d_W_step_29 rfl (by decide) ?_
    refine x_icmp_ne 37 33 hB d_W_step_30 (by decide) rfl (fun h30 => ?_) (fun h30 => ?_)
    · skip
      have k30 : ¬ ahN f p 2 = 2 := fun h => h30 ((nI_eq (by omega) (by omega)).mpr h)
      refine x_iconst (v := nI 0) 38 hB d_W_step_37 rfl (by decide) ?_
      refine x_lv (lv' := [(0, .ref hr), (1, .int (nI (ahN f p 2)))]) [1, 0] rfl ?_
      exact J38 () trivial
    · skip
      have k30 : ahN f p 2 = 2 := (nI_eq (by omega) (by omega)).mp h30
      refine x_iconst (v := nI 1) 34 hB d_W_step_33 rfl (by decide) ?_
      refine x_top (v' := .int (nI 0)) (congrArg Value.int (absurd (decide_eq_true (Or.inr k30)) (by rw [show decide _ = gdF f p from rfl, hG]; decide))) ?_
      refine x_goto 38 hB d_W_step_34 (by decide) ?_
      refine x_lv (lv' := [(0, .ref hr), (1, .int (nI (ahN f p 2)))]) [1, 0] rfl ?_
      exact J38 () trivial
abbrev rm_W_step_2 : Room := { frames := 4, cells := 0, slots := 0, locals := 90 }
set_option maxHeartbeats 4000000 in
set_option maxRecDepth 100000 in
theorem c_W_step_2 (l : Launch) (E : xE) (hr h0 hs : Nat) (sl bd wr gr : Nat) (la : Int32) (last : Int64) (a0 n p : Nat) (f : Nat → Int32) (w : Int64) (hn : n ≤ 2640) (hb : ∀ i, i < n → f i = 0 ∨ f i = 1) (hg : gr ≤ 8) (hp : p ≤ n) (hc : ¬ n - p < 66) (hG : gdF f p = true) : xC l E y_W_step (.code y_W_step prog_8_method_5_code 3 (some .int)) rm_W_step_2 [.ref hr] [(hr, .inr (3, [.ref h0, .int (bI false), .int (nI (sl)), .int (nI (bd)), .int (nI (wr)), .ref hs, .int (nI (gr)), .int (la), .long (last)])), (h0, .inr (0, [.ref a0, .int (nI (n)), .int (nI (p))])), (a0, .inl (E.2 0, 2640, .inl (f))), (hs, .inr (1, [.long (w)]))] (xRet (some (.int (bI (decide (ahN f p 2 = 2))))) [(hr, .inr (3, [.ref h0, .int (bI (if 8 ≤ gr + 1 then true else false)), .int (nI (sl)), .int (nI (bd)), .int (nI (wr)), .ref hs, .int (nI (gr + 1)), .int (if 8 ≤ gr + 1 then nI 0 else la), .long ((twF f (p + 2) w 64).2)])), (h0, .inr (0, [.ref a0, .int (nI (n)), .int (nI (p + 66))])), (a0, .inl (E.2 0, 2640, .inl (f))), (hs, .inr (1, [.long ((twF f (p + 2) w 64).1)]))]) := by
  refine x_of' (own := "LineCoder$WordReceiver") (mn := "step") (lv := [(0, .ref hr)]) (plainFor_of_name (by decide)) rfl rfl (Nat.le_of_ble_eq_true rfl) rfl ?_
  intro p_ e_ s_ m_ ar_ be_ me_ c_ A_ hA hB
  refine x_aload_n 1 hB d_W_step_0 rfl rfl ?_
  refine x_get 4 hB 0 fg_W_47_3 rfl rfl d_W_step_1 rfl ?_
  refine x_callP (k' := 0) (n' := 0) (rest := []) (st' := [.int (nI (n - p))]) 7 hB (x_pfV (av := []) (q0 := 1) hB w_161 xHd_code w_262 w_159 w_160 rfl rfl nm_L_left rfl d_W_step_4) (c_L_left l E h0 a0 n p hp) w_161 xHd_code w_2 [1] rfl rfl ⟨by decide, by decide⟩ ⟨by decide, by decide⟩ rfl rfl (Nat.le_of_ble_eq_true rfl) d_W_step_4 rfl rfl ?_
  refine x_bipush (v := nI 66) 9 hB d_W_step_7 rfl (by decide) ?_
  refine x_icmp_ge 14 12 hB d_W_step_9 (by decide) rfl (fun _ => ?_) (fun hc => absurd (nI_le (by omega) (by omega)) hc)
  refine x_aload_n 15 hB d_W_step_14 rfl rfl ?_
  refine x_get 18 hB 0 fg_W_47_3 rfl rfl d_W_step_15 rfl ?_
  refine x_iconst (v := nI 2) 19 hB d_W_step_18 rfl (by decide) ?_
  refine x_callP (k' := 0) (n' := 0) (rest := []) (st' := [.int (ahF f p 2)]) 22 hB (x_pfV (av := [.int (nI 2)]) (q0 := 1) hB w_169 xHd_code w_263 w_167 w_168 rfl rfl nm_L_ahead rfl d_W_step_19) (c_L_ahead l E h0 a0 n p f 2 (by omega) hn hb) w_169 xHd_code w_2 [1, 2] rfl rfl ⟨by decide, by decide⟩ ⟨by decide, by decide⟩ rfl rfl (Nat.le_of_ble_eq_true rfl) d_W_step_19 rfl rfl ?_
  refine x_top (v' := .int (nI (ahN f p 2))) (congrArg Value.int (ah_e hb 2 (by omega) (by omega))) ?_
  have hl2 : ahN f p 2 < 4 := ahN_lt f p 2
  refine x_istore_n 23 hB d_W_step_22 rfl (by decide) (lv' := [(1, .int (nI (ahN f p 2))), (0, .ref hr)]) rfl ?_
  refine x_join 38 (fun _u : Unit => True) (fun _u : Unit => [(hr, .inr (3, [.ref h0, .int (bI false), .int (nI (sl)), .int (nI (bd)), .int (nI (wr)), .ref hs, .int (nI (gr)), .int (la), .long (last)])), (h0, .inr (0, [.ref a0, .int (nI (n)), .int (nI (p))])), (a0, .inl (E.2 0, 2640, .inl (f))), (hs, .inr (1, [.long (w)]))]) (fun _u : Unit => [(0, .ref hr), (1, .int (nI (ahN f p 2)))]) (fun _u : Unit => [.int (nI 1)]) (fun _u hJ38 => ?_) (fun J38 => ?_)
  · skip
    refine x_istore_n 39 hB d_W_step_38 rfl (by decide) (lv' := [(2, .int (nI 1)), (0, .ref hr), (1, .int (nI (ahN f p 2)))]) rfl ?_
    refine x_aload_n 40 hB d_W_step_39 rfl rfl ?_
    refine x_get 43 hB 0 fg_W_37_3 rfl rfl d_W_step_40 rfl ?_
    refine x_if_ne 60 46 hB d_W_step_43 (by decide) rfl (fun hc => absurd (rfl) hc) (fun _ => ?_)
    refine x_iload_n 47 hB d_W_step_46 rfl rfl ?_
    refine x_if_ne 60 50 hB d_W_step_47 (by decide) rfl (fun _ => ?_) (fun hc => absurd hc (by decide))
    refine x_aload_n 61 hB d_W_step_60 rfl rfl ?_
    refine x_callD (k' := 0) (n' := 0) (rest := []) (wr := []) (ws' := [(hr, .inr (3, [.ref h0, .int (bI false), .int (nI (sl)), .int (nI (bd)), .int (nI (wr)), .ref hs, .int (nI (gr)), .int (la), .long ((twF f (p + 2) w 64).2)])), (h0, .inr (0, [.ref a0, .int (nI (n)), .int (nI (p + 66))])), (a0, .inl (E.2 0, 2640, .inl (f))), (hs, .inr (1, [.long ((twF f (p + 2) w 64).1)]))]) (st' := []) 64 hB (x_pfV (av := []) (q0 := 0) hB w_270 xHd_code w_267 w_269 s_W_takeWord rfl rfl nm_W_takeWord rfl d_W_step_61) (c_W_takeWord l E hr h0 hs false sl bd wr gr la last a0 n p f w (by omega) hn hb) w_270 xHd_code w_5 [0, 1, 2, 3] [] rfl rfl rfl rfl (by decide) ⟨by decide, by decide⟩ ⟨by decide, by decide⟩ rfl rfl (Nat.le_of_ble_eq_true rfl) d_W_step_61 rfl rfl rfl ?_
    refine x_aload_n 65 hB d_W_step_64 rfl rfl ?_
    refine x_get 68 hB 0 fg_W_37_3 rfl rfl d_W_step_65 rfl ?_
    refine x_if_eq 79 71 hB d_W_step_68 (by decide) rfl (fun _ => ?_) (fun hc => absurd (rfl) hc)
    refine x_aload_n 80 hB d_W_step_79 rfl rfl ?_
    refine x_callD (k' := 0) (n' := 0) (rest := []) (wr := [(h0, .inr (0, [.ref a0, .int (nI (n)), .int (nI (p + 66))])), (a0, .inl (E.2 0, 2640, .inl (f))), (hs, .inr (1, [.long ((twF f (p + 2) w 64).1)]))]) (ws' := [(h0, .inr (0, [.ref a0, .int (nI (n)), .int (nI (p + 66))])), (a0, .inl (E.2 0, 2640, .inl (f))), (hs, .inr (1, [.long ((twF f (p + 2) w 64).1)])), (hr, .inr (3, [.ref h0, .int (bI (if 8 ≤ gr + 1 then true else false)), .int (nI (sl)), .int (nI (bd)), .int (nI (wr)), .ref hs, .int (nI (gr + 1)), .int (if 8 ≤ gr + 1 then nI 0 else la), .long ((twF f (p + 2) w 64).2)]))]) (st' := []) 83 hB (x_pfV (av := []) (q0 := 0) hB w_293 xHd_code w_290 w_292 s_W_gain rfl rfl nm_W_gain rfl d_W_step_80) (c_W_gain l E hr h0 hs false sl bd wr gr la ((twF f (p + 2) w 64).2) hg) w_293 xHd_code w_5 [0] [1, 2, 3] rfl rfl rfl rfl (by decide) ⟨by decide, by decide⟩ ⟨by decide, by decide⟩ rfl rfl (Nat.le_of_ble_eq_true rfl) d_W_step_80 rfl rfl rfl ?_
    refine x_iload_n 84 hB d_W_step_83 rfl rfl ?_
    refine x_if_ne 100 87 hB d_W_step_84 (by decide) rfl (fun _ => ?_) (fun hc => absurd hc (by decide))
    refine x_iload_n 101 hB d_W_step_100 rfl rfl ?_
    refine x_iconst (v := nI 2) 102 hB d_W_step_101 rfl (by decide) ?_
    refine x_icmp_ne 109 105 hB d_W_step_102 (by decide) rfl (fun h102 => ?_) (fun h102 => ?_)
    · skip
      have k102 : ¬ ahN f p 2 = 2 := fun h => h102 ((nI_eq (by omega) (by omega)).mpr h)
      refine x_iconst (v := nI 0) 110 hB d_W_step_109 rfl (by decide) ?_
      exact x_iret hB (w' := [(hr, .inr (3, [.ref h0, .int (bI (if 8 ≤ gr + 1 then true else false)), .int (nI (sl)), .int (nI (bd)), .int (nI (wr)), .ref hs, .int (nI (gr + 1)), .int (if 8 ≤ gr + 1 then nI 0 else la), .long ((twF f (p + 2) w 64).2)])), (h0, .inr (0, [.ref a0, .int (nI (n)), .int (nI (p + 66))])), (a0, .inl (E.2 0, 2640, .inl (f))), (hs, .inr (1, [.long ((twF f (p + 2) w 64).1)]))]) hA [3, 0, 1, 2] rfl rfl (⟨by rw [show (nI 0) = bI (decide (ahN f p 2 = 2)) from bF0 (decide_eq_false k102)], rfl⟩) (by decide) (by decide) d_W_step_110
    · skip
      have k102 : ahN f p 2 = 2 := (nI_eq (by omega) (by omega)).mp h102
      refine x_iconst (v := nI 1) 106 hB d_W_step_105 rfl (by decide) ?_
      refine x_goto 110 hB d_W_step_106 (by decide) ?_
      exact x_iret hB (w' := [(hr, .inr (3, [.ref h0, .int (bI (if 8 ≤ gr + 1 then true else false)), .int (nI (sl)), .int (nI (bd)), .int (nI (wr)), .ref hs, .int (nI (gr + 1)), .int (if 8 ≤ gr + 1 then nI 0 else la), .long ((twF f (p + 2) w 64).2)])), (h0, .inr (0, [.ref a0, .int (nI (n)), .int (nI (p + 66))])), (a0, .inl (E.2 0, 2640, .inl (f))), (hs, .inr (1, [.long ((twF f (p + 2) w 64).1)]))]) hA [3, 0, 1, 2] rfl rfl (⟨by rw [show (nI 1) = bI (decide (ahN f p 2 = 2)) from bT (decide_eq_true k102)], rfl⟩) (by decide) (by decide) d_W_step_110
  refine x_iload_n 24 hB d_W_step_23 rfl rfl ?_
  refine x_iconst (v := nI 1) 25 hB d_W_step_24 rfl (by decide) ?_
  refine x_icmp_eq 33 28 hB d_W_step_25 (by decide) rfl (fun h25 => ?_) (fun h25 => ?_)
  · skip
    have k25 : ahN f p 2 = 1 := (nI_eq (by omega) (by omega)).mp h25
    refine x_iconst (v := nI 1) 34 hB d_W_step_33 rfl (by decide) ?_
    refine x_goto 38 hB d_W_step_34 (by decide) ?_
    refine x_lv (lv' := [(0, .ref hr), (1, .int (nI (ahN f p 2)))]) [1, 0] rfl ?_
    exact J38 () trivial
  · skip
    have k25 : ¬ ahN f p 2 = 1 := fun h => h25 ((nI_eq (by omega) (by omega)).mpr h)
    refine x_iload_n 29 hB d_W_step_28 rfl rfl ?_
    refine x_iconst (v := nI 2) 30 hB d_W_step_29 rfl (by decide) ?_
    refine x_icmp_ne 37 33 hB d_W_step_30 (by decide) rfl (fun h30 => ?_) (fun h30 => ?_)
    · skip
      have k30 : ¬ ahN f p 2 = 2 := fun h => h30 ((nI_eq (by omega) (by omega)).mpr h)
      refine x_iconst (v := nI 0) 38 hB d_W_step_37 rfl (by decide) ?_
      refine x_top (v' := .int (nI 1)) (congrArg Value.int (absurd (of_decide_eq_true hG) (fun h => h.elim k25 k30))) ?_
      refine x_lv (lv' := [(0, .ref hr), (1, .int (nI (ahN f p 2)))]) [1, 0] rfl ?_
      exact J38 () trivial
    · skip
      have k30 : ahN f p 2 = 2 := (nI_eq (by omega) (by omega)).mp h30
      refine x_iconst (v := nI 1) 34 hB d_W_step_33 rfl (by decide) ?_
      refine x_goto 38 hB d_W_step_34 (by decide) ?_
      refine x_lv (lv' := [(0, .ref hr), (1, .int (nI (ahN f p 2)))]) [1, 0] rfl ?_
      exact J38 () trivial
abbrev rm_W_step_3 : Room := { frames := 4, cells := 0, slots := 0, locals := 90 }
set_option maxHeartbeats 4000000 in
set_option maxRecDepth 100000 in
theorem c_W_step_3 (l : Launch) (E : xE) (hr h0 hs : Nat) (sl bd wr gr : Nat) (la : Int32) (last : Int64) (a0 n p : Nat) (f : Nat → Int32) (w : Int64) (hn : n ≤ 2640) (hb : ∀ i, i < n → f i = 0 ∨ f i = 1) (hg : gr ≤ 8) (hp : p ≤ n) (hc : ¬ n - p < 66) (hG : gdF f p = true) : xC l E y_W_step (.code y_W_step prog_8_method_5_code 3 (some .int)) rm_W_step_3 [.ref hr] [(hr, .inr (3, [.ref h0, .int (bI true), .int (nI (sl)), .int (nI (bd)), .int (nI (wr)), .ref hs, .int (nI (gr)), .int (la), .long (last)])), (h0, .inr (0, [.ref a0, .int (nI (n)), .int (nI (p))])), (a0, .inl (E.2 0, 2640, .inl (f))), (hs, .inr (1, [.long (w)]))] (xRet (some (.int (bI (decide (ahN f p 2 = 2))))) [(hr, .inr (3, [.ref h0, .int (bI (if lt4 (wlF la true) then true else false)), .int (nI (sl)), .int (nI (bd)), .int (nI (wr)), .ref hs, .int (nI (if lt4 (wlF la true) then gr else 0)), .int (wlF la true), .long ((twF f (p + 2) w 64).2)])), (h0, .inr (0, [.ref a0, .int (nI (n)), .int (nI (p + 66))])), (a0, .inl (E.2 0, 2640, .inl (f))), (hs, .inr (1, [.long ((twF f (p + 2) w 64).1)]))]) := by
  refine x_of' (own := "LineCoder$WordReceiver") (mn := "step") (lv := [(0, .ref hr)]) (plainFor_of_name (by decide)) rfl rfl (Nat.le_of_ble_eq_true rfl) rfl ?_
  intro p_ e_ s_ m_ ar_ be_ me_ c_ A_ hA hB
  refine x_aload_n 1 hB d_W_step_0 rfl rfl ?_
  refine x_get 4 hB 0 fg_W_47_3 rfl rfl d_W_step_1 rfl ?_
  refine x_callP (k' := 0) (n' := 0) (rest := []) (st' := [.int (nI (n - p))]) 7 hB (x_pfV (av := []) (q0 := 1) hB w_161 xHd_code w_262 w_159 w_160 rfl rfl nm_L_left rfl d_W_step_4) (c_L_left l E h0 a0 n p hp) w_161 xHd_code w_2 [1] rfl rfl ⟨by decide, by decide⟩ ⟨by decide, by decide⟩ rfl rfl (Nat.le_of_ble_eq_true rfl) d_W_step_4 rfl rfl ?_
  refine x_bipush (v := nI 66) 9 hB d_W_step_7 rfl (by decide) ?_
  refine x_icmp_ge 14 12 hB d_W_step_9 (by decide) rfl (fun _ => ?_) (fun hc => absurd (nI_le (by omega) (by omega)) hc)
  refine x_aload_n 15 hB d_W_step_14 rfl rfl ?_
  refine x_get 18 hB 0 fg_W_47_3 rfl rfl d_W_step_15 rfl ?_
  refine x_iconst (v := nI 2) 19 hB d_W_step_18 rfl (by decide) ?_
  refine x_callP (k' := 0) (n' := 0) (rest := []) (st' := [.int (ahF f p 2)]) 22 hB (x_pfV (av := [.int (nI 2)]) (q0 := 1) hB w_169 xHd_code w_263 w_167 w_168 rfl rfl nm_L_ahead rfl d_W_step_19) (c_L_ahead l E h0 a0 n p f 2 (by omega) hn hb) w_169 xHd_code w_2 [1, 2] rfl rfl ⟨by decide, by decide⟩ ⟨by decide, by decide⟩ rfl rfl (Nat.le_of_ble_eq_true rfl) d_W_step_19 rfl rfl ?_
  refine x_top (v' := .int (nI (ahN f p 2))) (congrArg Value.int (ah_e hb 2 (by omega) (by omega))) ?_
  have hl2 : ahN f p 2 < 4 := ahN_lt f p 2
  refine x_istore_n 23 hB d_W_step_22 rfl (by decide) (lv' := [(1, .int (nI (ahN f p 2))), (0, .ref hr)]) rfl ?_
  refine x_join 38 (fun _u : Unit => True) (fun _u : Unit => [(hr, .inr (3, [.ref h0, .int (bI true), .int (nI (sl)), .int (nI (bd)), .int (nI (wr)), .ref hs, .int (nI (gr)), .int (la), .long (last)])), (h0, .inr (0, [.ref a0, .int (nI (n)), .int (nI (p))])), (a0, .inl (E.2 0, 2640, .inl (f))), (hs, .inr (1, [.long (w)]))]) (fun _u : Unit => [(0, .ref hr), (1, .int (nI (ahN f p 2)))]) (fun _u : Unit => [.int (nI 1)]) (fun _u hJ38 => ?_) (fun J38 => ?_)
  · skip
    refine x_istore_n 39 hB d_W_step_38 rfl (by decide) (lv' := [(2, .int (nI 1)), (0, .ref hr), (1, .int (nI (ahN f p 2)))]) rfl ?_
    refine x_aload_n 40 hB d_W_step_39 rfl rfl ?_
    refine x_get 43 hB 0 fg_W_37_3 rfl rfl d_W_step_40 rfl ?_
    refine x_if_ne 60 46 hB d_W_step_43 (by decide) rfl (fun _ => ?_) (fun hc => absurd hc (by decide))
    refine x_aload_n 61 hB d_W_step_60 rfl rfl ?_
    refine x_callD (k' := 0) (n' := 0) (rest := []) (wr := []) (ws' := [(hr, .inr (3, [.ref h0, .int (bI true), .int (nI (sl)), .int (nI (bd)), .int (nI (wr)), .ref hs, .int (nI (gr)), .int (la), .long ((twF f (p + 2) w 64).2)])), (h0, .inr (0, [.ref a0, .int (nI (n)), .int (nI (p + 66))])), (a0, .inl (E.2 0, 2640, .inl (f))), (hs, .inr (1, [.long ((twF f (p + 2) w 64).1)]))]) (st' := []) 64 hB (x_pfV (av := []) (q0 := 0) hB w_270 xHd_code w_267 w_269 s_W_takeWord rfl rfl nm_W_takeWord rfl d_W_step_61) (c_W_takeWord l E hr h0 hs true sl bd wr gr la last a0 n p f w (by omega) hn hb) w_270 xHd_code w_5 [0, 1, 2, 3] [] rfl rfl rfl rfl (by decide) ⟨by decide, by decide⟩ ⟨by decide, by decide⟩ rfl rfl (Nat.le_of_ble_eq_true rfl) d_W_step_61 rfl rfl rfl ?_
    refine x_aload_n 65 hB d_W_step_64 rfl rfl ?_
    refine x_get 68 hB 0 fg_W_37_3 rfl rfl d_W_step_65 rfl ?_
    refine x_if_eq 79 71 hB d_W_step_68 (by decide) rfl (fun hc => absurd hc (by decide)) (fun _ => ?_)
    refine x_aload_n 72 hB d_W_step_71 rfl rfl ?_
    refine x_iload_n 73 hB d_W_step_72 rfl rfl ?_
    refine x_callD (k' := 0) (n' := 0) (rest := []) (wr := [(h0, .inr (0, [.ref a0, .int (nI (n)), .int (nI (p + 66))])), (a0, .inl (E.2 0, 2640, .inl (f))), (hs, .inr (1, [.long ((twF f (p + 2) w 64).1)]))]) (ws' := [(h0, .inr (0, [.ref a0, .int (nI (n)), .int (nI (p + 66))])), (a0, .inl (E.2 0, 2640, .inl (f))), (hs, .inr (1, [.long ((twF f (p + 2) w 64).1)])), (hr, .inr (3, [.ref h0, .int (bI (if lt4 (wlF la true) then true else false)), .int (nI (sl)), .int (nI (bd)), .int (nI (wr)), .ref hs, .int (nI (if lt4 (wlF la true) then gr else 0)), .int (wlF la true), .long ((twF f (p + 2) w 64).2)]))]) (st' := []) 76 hB (x_pfV (av := [.int (nI 1)]) (q0 := 0) hB w_287 xHd_code w_284 w_286 s_W_watch rfl rfl nm_W_watch rfl d_W_step_73) (c_W_watch_true l E hr h0 hs true sl bd wr gr la ((twF f (p + 2) w 64).2)) w_287 xHd_code w_5 [0] [1, 2, 3] rfl rfl rfl rfl (by decide) ⟨by decide, by decide⟩ ⟨by decide, by decide⟩ rfl rfl (Nat.le_of_ble_eq_true rfl) d_W_step_73 rfl rfl rfl ?_
    refine x_goto 83 hB d_W_step_76 (by decide) ?_
    refine x_iload_n 84 hB d_W_step_83 rfl rfl ?_
    refine x_if_ne 100 87 hB d_W_step_84 (by decide) rfl (fun _ => ?_) (fun hc => absurd hc (by decide))
    refine x_iload_n 101 hB d_W_step_100 rfl rfl ?_
    refine x_iconst (v := nI 2) 102 hB d_W_step_101 rfl (by decide) ?_
    refine x_icmp_ne 109 105 hB d_W_step_102 (by decide) rfl (fun h102 => ?_) (fun h102 => ?_)
    · skip
      have k102 : ¬ ahN f p 2 = 2 := fun h => h102 ((nI_eq (by omega) (by omega)).mpr h)
      refine x_iconst (v := nI 0) 110 hB d_W_step_109 rfl (by decide) ?_
      exact x_iret hB (w' := [(hr, .inr (3, [.ref h0, .int (bI (if lt4 (wlF la true) then true else false)), .int (nI (sl)), .int (nI (bd)), .int (nI (wr)), .ref hs, .int (nI (if lt4 (wlF la true) then gr else 0)), .int (wlF la true), .long ((twF f (p + 2) w 64).2)])), (h0, .inr (0, [.ref a0, .int (nI (n)), .int (nI (p + 66))])), (a0, .inl (E.2 0, 2640, .inl (f))), (hs, .inr (1, [.long ((twF f (p + 2) w 64).1)]))]) hA [3, 0, 1, 2] rfl rfl (⟨by rw [show (nI 0) = bI (decide (ahN f p 2 = 2)) from bF0 (decide_eq_false k102)], rfl⟩) (by decide) (by decide) d_W_step_110
    · skip
      have k102 : ahN f p 2 = 2 := (nI_eq (by omega) (by omega)).mp h102
      refine x_iconst (v := nI 1) 106 hB d_W_step_105 rfl (by decide) ?_
      refine x_goto 110 hB d_W_step_106 (by decide) ?_
      exact x_iret hB (w' := [(hr, .inr (3, [.ref h0, .int (bI (if lt4 (wlF la true) then true else false)), .int (nI (sl)), .int (nI (bd)), .int (nI (wr)), .ref hs, .int (nI (if lt4 (wlF la true) then gr else 0)), .int (wlF la true), .long ((twF f (p + 2) w 64).2)])), (h0, .inr (0, [.ref a0, .int (nI (n)), .int (nI (p + 66))])), (a0, .inl (E.2 0, 2640, .inl (f))), (hs, .inr (1, [.long ((twF f (p + 2) w 64).1)]))]) hA [3, 0, 1, 2] rfl rfl (⟨by rw [show (nI 1) = bI (decide (ahN f p 2 = 2)) from bT (decide_eq_true k102)], rfl⟩) (by decide) (by decide) d_W_step_110
  refine x_iload_n 24 hB d_W_step_23 rfl rfl ?_
  refine x_iconst (v := nI 1) 25 hB d_W_step_24 rfl (by decide) ?_
  refine x_icmp_eq 33 28 hB d_W_step_25 (by decide) rfl (fun h25 => ?_) (fun h25 => ?_)
  · skip
    have k25 : ahN f p 2 = 1 := (nI_eq (by omega) (by omega)).mp h25
    refine x_iconst (v := nI 1) 34 hB d_W_step_33 rfl (by decide) ?_
    refine x_goto 38 hB d_W_step_34 (by decide) ?_
    refine x_lv (lv' := [(0, .ref hr), (1, .int (nI (ahN f p 2)))]) [1, 0] rfl ?_
    exact J38 () trivial
  · skip
    have k25 : ¬ ahN f p 2 = 1 := fun h => h25 ((nI_eq (by omega) (by omega)).mpr h)
    refine x_iload_n 29 hB d_W_step_28 rfl rfl ?_
    refine x_iconst (v := nI 2) 30 hB d_W_step_29 rfl (by decide) ?_
    refine x_icmp_ne 37 33 hB d_W_step_30 (by decide) rfl (fun h30 => ?_) (fun h30 => ?_)
    · skip
      have k30 : ¬ ahN f p 2 = 2 := fun h => h30 ((nI_eq (by omega) (by omega)).mpr h)
      refine x_iconst (v := nI 0) 38 hB d_W_step_37 rfl (by decide) ?_
      refine x_top (v' := .int (nI 1)) (congrArg Value.int (absurd (of_decide_eq_true hG) (fun h => h.elim k25 k30))) ?_
      refine x_lv (lv' := [(0, .ref hr), (1, .int (nI (ahN f p 2)))]) [1, 0] rfl ?_
      exact J38 () trivial
    · skip
      have k30 : ahN f p 2 = 2 := (nI_eq (by omega) (by omega)).mp h30
      refine x_iconst (v := nI 1) 34 hB d_W_step_33 rfl (by decide) ?_
      refine x_goto 38 hB d_W_step_34 (by decide) ?_
      refine x_lv (lv' := [(0, .ref hr), (1, .int (nI (ahN f p 2)))]) [1, 0] rfl ?_
      exact J38 () trivial
abbrev rm_W_step_4 : Room := { frames := 4, cells := 0, slots := 0, locals := 90 }
set_option maxHeartbeats 4000000 in
set_option maxRecDepth 100000 in
theorem c_W_step_4 (l : Launch) (E : xE) (hr h0 hs : Nat) (sl bd wr gr : Nat) (la : Int32) (last : Int64) (a0 n p : Nat) (f : Nat → Int32) (w : Int64) (hn : n ≤ 2640) (hb : ∀ i, i < n → f i = 0 ∨ f i = 1) (hg : gr ≤ 8) (hp : p ≤ n) (hc : ¬ n - p < 66) (hG : gdF f p = false) : xC l E y_W_step (.code y_W_step prog_8_method_5_code 3 (some .int)) rm_W_step_4 [.ref hr] [(hr, .inr (3, [.ref h0, .int (bI true), .int (nI (sl)), .int (nI (bd)), .int (nI (wr)), .ref hs, .int (nI (gr)), .int (la), .long (last)])), (h0, .inr (0, [.ref a0, .int (nI (n)), .int (nI (p))])), (a0, .inl (E.2 0, 2640, .inl (f))), (hs, .inr (1, [.long (w)]))] (xRet (some (.int (-2))) [(hr, .inr (3, [.ref h0, .int (bI (if lt4 (wlF la false) then true else false)), .int (nI (sl)), .int (nI (bd + 1)), .int (nI (wr)), .ref hs, .int (nI (if lt4 (wlF la false) then gr else 0)), .int (wlF la false), .long ((twF f (p + 2) w 64).2)])), (h0, .inr (0, [.ref a0, .int (nI (n)), .int (nI (p + 66))])), (a0, .inl (E.2 0, 2640, .inl (f))), (hs, .inr (1, [.long ((twF f (p + 2) w 64).1)]))]) := by
  refine x_of' (own := "LineCoder$WordReceiver") (mn := "step") (lv := [(0, .ref hr)]) (plainFor_of_name (by decide)) rfl rfl (Nat.le_of_ble_eq_true rfl) rfl ?_
  intro p_ e_ s_ m_ ar_ be_ me_ c_ A_ hA hB
  refine x_aload_n 1 hB d_W_step_0 rfl rfl ?_
  refine x_get 4 hB 0 fg_W_47_3 rfl rfl d_W_step_1 rfl ?_
  refine x_callP (k' := 0) (n' := 0) (rest := []) (st' := [.int (nI (n - p))]) 7 hB (x_pfV (av := []) (q0 := 1) hB w_161 xHd_code w_262 w_159 w_160 rfl rfl nm_L_left rfl d_W_step_4) (c_L_left l E h0 a0 n p hp) w_161 xHd_code w_2 [1] rfl rfl ⟨by decide, by decide⟩ ⟨by decide, by decide⟩ rfl rfl (Nat.le_of_ble_eq_true rfl) d_W_step_4 rfl rfl ?_
  refine x_bipush (v := nI 66) 9 hB d_W_step_7 rfl (by decide) ?_
  refine x_icmp_ge 14 12 hB d_W_step_9 (by decide) rfl (fun _ => ?_) (fun hc => absurd (nI_le (by omega) (by omega)) hc)
  refine x_aload_n 15 hB d_W_step_14 rfl rfl ?_
  refine x_get 18 hB 0 fg_W_47_3 rfl rfl d_W_step_15 rfl ?_
  refine x_iconst (v := nI 2) 19 hB d_W_step_18 rfl (by decide) ?_
  refine x_callP (k' := 0) (n' := 0) (rest := []) (st' := [.int (ahF f p 2)]) 22 hB (x_pfV (av := [.int (nI 2)]) (q0 := 1) hB w_169 xHd_code w_263 w_167 w_168 rfl rfl nm_L_ahead rfl d_W_step_19) (c_L_ahead l E h0 a0 n p f 2 (by omega) hn hb) w_169 xHd_code w_2 [1, 2] rfl rfl ⟨by decide, by decide⟩ ⟨by decide, by decide⟩ rfl rfl (Nat.le_of_ble_eq_true rfl) d_W_step_19 rfl rfl ?_
  refine x_top (v' := .int (nI (ahN f p 2))) (congrArg Value.int (ah_e hb 2 (by omega) (by omega))) ?_
  have hl2 : ahN f p 2 < 4 := ahN_lt f p 2
  refine x_istore_n 23 hB d_W_step_22 rfl (by decide) (lv' := [(1, .int (nI (ahN f p 2))), (0, .ref hr)]) rfl ?_
  refine x_join 38 (fun _u : Unit => True) (fun _u : Unit => [(hr, .inr (3, [.ref h0, .int (bI true), .int (nI (sl)), .int (nI (bd)), .int (nI (wr)), .ref hs, .int (nI (gr)), .int (la), .long (last)])), (h0, .inr (0, [.ref a0, .int (nI (n)), .int (nI (p))])), (a0, .inl (E.2 0, 2640, .inl (f))), (hs, .inr (1, [.long (w)]))]) (fun _u : Unit => [(0, .ref hr), (1, .int (nI (ahN f p 2)))]) (fun _u : Unit => [.int (nI 0)]) (fun _u hJ38 => ?_) (fun J38 => ?_)
  · skip
    refine x_istore_n 39 hB d_W_step_38 rfl (by decide) (lv' := [(2, .int (nI 0)), (0, .ref hr), (1, .int (nI (ahN f p 2)))]) rfl ?_
    refine x_aload_n 40 hB d_W_step_39 rfl rfl ?_
    refine x_get 43 hB 0 fg_W_37_3 rfl rfl d_W_step_40 rfl ?_
    refine x_if_ne 60 46 hB d_W_step_43 (by decide) rfl (fun _ => ?_) (fun hc => absurd hc (by decide))
    refine x_aload_n 61 hB d_W_step_60 rfl rfl ?_
    refine x_callD (k' := 0) (n' := 0) (rest := []) (wr := []) (ws' := [(hr, .inr (3, [.ref h0, .int (bI true), .int (nI (sl)), .int (nI (bd)), .int (nI (wr)), .ref hs, .int (nI (gr)), .int (la), .long ((twF f (p + 2) w 64).2)])), (h0, .inr (0, [.ref a0, .int (nI (n)), .int (nI (p + 66))])), (a0, .inl (E.2 0, 2640, .inl (f))), (hs, .inr (1, [.long ((twF f (p + 2) w 64).1)]))]) (st' := []) 64 hB (x_pfV (av := []) (q0 := 0) hB w_270 xHd_code w_267 w_269 s_W_takeWord rfl rfl nm_W_takeWord rfl d_W_step_61) (c_W_takeWord l E hr h0 hs true sl bd wr gr la last a0 n p f w (by omega) hn hb) w_270 xHd_code w_5 [0, 1, 2, 3] [] rfl rfl rfl rfl (by decide) ⟨by decide, by decide⟩ ⟨by decide, by decide⟩ rfl rfl (Nat.le_of_ble_eq_true rfl) d_W_step_61 rfl rfl rfl ?_
    refine x_aload_n 65 hB d_W_step_64 rfl rfl ?_
    refine x_get 68 hB 0 fg_W_37_3 rfl rfl d_W_step_65 rfl ?_
    refine x_if_eq 79 71 hB d_W_step_68 (by decide) rfl (fun hc => absurd hc (by decide)) (fun _ => ?_)
    refine x_aload_n 72 hB d_W_step_71 rfl rfl ?_
    refine x_iload_n 73 hB d_W_step_72 rfl rfl ?_
    refine x_callD (k' := 0) (n' := 0) (rest := []) (wr := [(h0, .inr (0, [.ref a0, .int (nI (n)), .int (nI (p + 66))])), (a0, .inl (E.2 0, 2640, .inl (f))), (hs, .inr (1, [.long ((twF f (p + 2) w 64).1)]))]) (ws' := [(h0, .inr (0, [.ref a0, .int (nI (n)), .int (nI (p + 66))])), (a0, .inl (E.2 0, 2640, .inl (f))), (hs, .inr (1, [.long ((twF f (p + 2) w 64).1)])), (hr, .inr (3, [.ref h0, .int (bI (if lt4 (wlF la false) then true else false)), .int (nI (sl)), .int (nI (bd)), .int (nI (wr)), .ref hs, .int (nI (if lt4 (wlF la false) then gr else 0)), .int (wlF la false), .long ((twF f (p + 2) w 64).2)]))]) (st' := []) 76 hB (x_pfV (av := [.int (nI 0)]) (q0 := 0) hB w_287 xHd_code w_284 w_286 s_W_watch rfl rfl nm_W_watch rfl d_W_step_73) (c_W_watch_false l E hr h0 hs true sl bd wr gr la ((twF f (p + 2) w 64).2)) w_287 xHd_code w_5 [0] [1, 2, 3] rfl rfl rfl rfl (by decide) ⟨by decide, by decide⟩ ⟨by decide, by decide⟩ rfl rfl (Nat.le_of_ble_eq_true rfl) d_W_step_73 rfl rfl rfl ?_
    refine x_goto 83 hB d_W_step_76 (by decide) ?_
    refine x_iload_n 84 hB d_W_step_83 rfl rfl ?_
    refine x_if_ne 100 87 hB d_W_step_84 (by decide) rfl (fun hc => absurd (by decide) hc) (fun _ => ?_)
    refine x_aload_n 88 hB d_W_step_87 rfl rfl ?_
    refine x_dup 89 hB d_W_step_88 rfl rfl ?_
    refine x_get 92 hB 3 fg_W_75_3 rfl rfl d_W_step_89 rfl ?_
    refine x_iconst (v := nI 1) 93 hB d_W_step_92 rfl (by decide) ?_
    refine x_iadd 94 hB d_W_step_93 rfl ?_
    refine x_top (v' := .int (nI (bd + 1))) (congrArg Value.int (nI_add bd 1)) ?_
    refine x_put 97 hB 3 (ws' := [(h0, .inr (0, [.ref a0, .int (nI (n)), .int (nI (p + 66))])), (a0, .inl (E.2 0, 2640, .inl (f))), (hs, .inr (1, [.long ((twF f (p + 2) w 64).1)])), (hr, .inr (3, [.ref h0, .int (bI (if lt4 (wlF la false) then true else false)), .int (nI (sl)), .int (nI (bd + 1)), .int (nI (wr)), .ref hs, .int (nI (if lt4 (wlF la false) then gr else 0)), .int (wlF la false), .long ((twF f (p + 2) w 64).2)]))]) fp_W_75_3 rfl (rfl) (rfl) (Nat.le_of_ble_eq_true rfl) rfl d_W_step_94 rfl ?_
    refine x_bipush (v := (-2 : Int32)) 99 hB d_W_step_97 rfl (by decide) ?_
    exact x_iret hB (w' := [(hr, .inr (3, [.ref h0, .int (bI (if lt4 (wlF la false) then true else false)), .int (nI (sl)), .int (nI (bd + 1)), .int (nI (wr)), .ref hs, .int (nI (if lt4 (wlF la false) then gr else 0)), .int (wlF la false), .long ((twF f (p + 2) w 64).2)])), (h0, .inr (0, [.ref a0, .int (nI (n)), .int (nI (p + 66))])), (a0, .inl (E.2 0, 2640, .inl (f))), (hs, .inr (1, [.long ((twF f (p + 2) w 64).1)]))]) hA [3, 0, 1, 2] rfl rfl (xRet_i) (by decide) (by decide) d_W_step_99
  refine x_iload_n 24 hB d_W_step_23 rfl rfl ?_
  refine x_iconst (v := nI 1) 25 hB d_W_step_24 rfl (by decide) ?_
  refine x_icmp_eq 33 28 hB d_W_step_25 (by decide) rfl (fun h25 => ?_) (fun h25 => ?_)
  · skip
    have k25 : ahN f p 2 = 1 := (nI_eq (by omega) (by omega)).mp h25
    refine x_iconst (v := nI 1) 34 hB d_W_step_33 rfl (by decide) ?_
    refine x_top (v' := .int (nI 0)) (congrArg Value.int (absurd (decide_eq_true (Or.inl k25)) (by rw [show decide _ = gdF f p from rfl, hG]; decide))) ?_
    refine x_goto 38 hB d_W_step_34 (by decide) ?_
    refine x_lv (lv' := [(0, .ref hr), (1, .int (nI (ahN f p 2)))]) [1, 0] rfl ?_
    exact J38 () trivial
  · skip
    have k25 : ¬ ahN f p 2 = 1 := fun h => h25 ((nI_eq (by omega) (by omega)).mpr h)
    refine x_iload_n 29 hB d_W_step_28 rfl rfl ?_
    refine x_iconst (v := nI 2) 30 hB d_W_step_29 rfl (by decide) ?_
    refine x_icmp_ne 37 33 hB d_W_step_30 (by decide) rfl (fun h30 => ?_) (fun h30 => ?_)
    · skip
      have k30 : ¬ ahN f p 2 = 2 := fun h => h30 ((nI_eq (by omega) (by omega)).mpr h)
      refine x_iconst (v := nI 0) 38 hB d_W_step_37 rfl (by decide) ?_
      refine x_lv (lv' := [(0, .ref hr), (1, .int (nI (ahN f p 2)))]) [1, 0] rfl ?_
      exact J38 () trivial
    · skip
      have k30 : ahN f p 2 = 2 := (nI_eq (by omega) (by omega)).mp h30
      refine x_iconst (v := nI 1) 34 hB d_W_step_33 rfl (by decide) ?_
      refine x_top (v' := .int (nI 0)) (congrArg Value.int (absurd (decide_eq_true (Or.inr k30)) (by rw [show decide _ = gdF f p from rfl, hG]; decide))) ?_
      refine x_goto 38 hB d_W_step_34 (by decide) ?_
      refine x_lv (lv' := [(0, .ref hr), (1, .int (nI (ahN f p 2)))]) [1, 0] rfl ?_
      exact J38 () trivial
theorem ifb (c : Prop) [d : Decidable c] : (if c then true else false) = decide c := by cases d <;> rfl
theorem ifbb (b : Bool) : (if b then true else false) = b := by cases b <;> rfl
set_option maxHeartbeats 4000000 in
theorem c_W_step (l : Launch) (E : xE) (hr h0 hs : Nat) (fo : Bool) (sl bd wr gr : Nat) (la : Int32) (last : Int64) (a0 n p : Nat) (f : Nat → Int32) (w : Int64) (hn : n ≤ 2640) (hb : ∀ i, i < n → f i = 0 ∨ f i = 1) (hg : gr ≤ 8) (hp : p ≤ n) : xC l E y_W_step (.code y_W_step prog_8_method_5_code 3 (some .int)) rm_W_step_0 [.ref hr] [(hr, .inr (3, [.ref h0, .int (bI fo), .int (nI (sl)), .int (nI (bd)), .int (nI (wr)), .ref hs, .int (nI (gr)), .int (la), .long (last)])), (h0, .inr (0, [.ref a0, .int (nI (n)), .int (nI (p))])), (a0, .inl (E.2 0, 2640, .inl (f))), (hs, .inr (1, [.long (w)]))] (xRet (some (.int (wcR (wcC f n p fo) (ahN f p 2)))) [(hr, .inr (3, [.ref h0, .int (bI (wcO (wcC f n p fo) fo gr la)), .int (nI (wcS (wcC f n p fo) sl)), .int (nI (wcB (wcC f n p fo) bd)), .int (nI (wr)), .ref hs, .int (nI (wcG (wcC f n p fo) gr la)), .int (wcA (wcC f n p fo) gr la), .long (wcT (wcC f n p fo) f p w last)])), (h0, .inr (0, [.ref a0, .int (nI (n)), .int (nI (wcL (wcC f n p fo) p))])), (a0, .inl (E.2 0, 2640, .inl (f))), (hs, .inr (1, [.long (wcP (wcC f n p fo) f p w)]))]) := by
  by_cases hc : n - p < 66
  · have e : wcC f n p fo = 0 := by simp [wcC, hc]
    rw [e]
    exact c_W_step_0 l E hr h0 hs fo sl bd wr gr la last a0 n p f w hn hb hg hp hc
  · cases fo with
    | false =>
      cases hG : gdF f p with
      | false =>
        have e : wcC f n p false = 1 := by simp [wcC, hc, hG]
        rw [e]
        exact c_W_step_1 l E hr h0 hs sl bd wr gr la last a0 n p f w hn hb hg hp hc hG
      | true =>
        have e : wcC f n p false = 2 := by simp [wcC, hc, hG]
        rw [e]
        have h := c_W_step_2 l E hr h0 hs sl bd wr gr la last a0 n p f w hn hb hg hp hc hG
        rw [ifb] at h
        exact h
    | true =>
      cases hG : gdF f p with
      | false =>
        have e : wcC f n p true = 4 := by simp [wcC, hc, hG]
        rw [e]
        have h := c_W_step_4 l E hr h0 hs sl bd wr gr la last a0 n p f w hn hb hg hp hc hG
        rw [ifbb] at h
        exact h
      | true =>
        have e : wcC f n p true = 3 := by simp [wcC, hc, hG]
        rw [e]
        have h := c_W_step_3 l E hr h0 hs sl bd wr gr la last a0 n p f w hn hb hg hp hc hG
        rw [ifbb] at h
        exact h
end
