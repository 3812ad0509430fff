-- ===== PART A: goes FIRST, ahead of the names: the tables' words, and 'selects' of the private methods out of them =====
/-- a private method of a class that the tables say can be made, by its rows of tables_1 -/
def lw_okq (q : MethodName × Nat) : Prop := (q.1.cls ≠ "java/lang/invoke/MethodHandle" ∧ q.1.cls ≠ "java/lang/invoke/VarHandle") ∧ Cond.instantiable q.1.cls q.2 ∈ tables_1 ∧ Cond.privateMethod q.1 ∈ tables_1 ∧ Cond.instanceMethod q.1 ∈ tables_1
theorem lw_p0 : lw_okq (⟨"LineCoder$TenReceiver", "isAtMark", "()Z"⟩, 9) := ⟨⟨by decide +kernel, by decide +kernel⟩, List.mem_of_getElem? (i := 44) (by decide +kernel), List.mem_of_getElem? (i := 163) (by decide +kernel), List.mem_of_getElem? (i := 164) (by decide +kernel)⟩
theorem lw_p1 : lw_okq (⟨"LineCoder$TenReceiver", "takeTen", "()I"⟩, 9) := ⟨⟨by decide +kernel, by decide +kernel⟩, List.mem_of_getElem? (i := 44) (by decide +kernel), List.mem_of_getElem? (i := 193) (by decide +kernel), List.mem_of_getElem? (i := 194) (by decide +kernel)⟩
theorem lw_p2 : lw_okq (⟨"LineCoder$TenReceiver", "judge", "(IZ)I"⟩, 9) := ⟨⟨by decide +kernel, by decide +kernel⟩, List.mem_of_getElem? (i := 44) (by decide +kernel), List.mem_of_getElem? (i := 240) (by decide +kernel), List.mem_of_getElem? (i := 241) (by decide +kernel)⟩
theorem lw_p3 : lw_okq (⟨"LineCoder$TenReceiver", "mark", "()V"⟩, 9) := ⟨⟨by decide +kernel, by decide +kernel⟩, List.mem_of_getElem? (i := 44) (by decide +kernel), List.mem_of_getElem? (i := 244) (by decide +kernel), List.mem_of_getElem? (i := 245) (by decide +kernel)⟩
theorem lw_p4 : lw_okq (⟨"LineCoder$TenReceiver", "praise", "()V"⟩, 9) := ⟨⟨by decide +kernel, by decide +kernel⟩, List.mem_of_getElem? (i := 44) (by decide +kernel), List.mem_of_getElem? (i := 248) (by decide +kernel), List.mem_of_getElem? (i := 249) (by decide +kernel)⟩
theorem lw_p5 : lw_okq (⟨"LineCoder$WordReceiver", "takeWord", "()V"⟩, 9) := ⟨⟨by decide +kernel, by decide +kernel⟩, List.mem_of_getElem? (i := 95) (by decide +kernel), List.mem_of_getElem? (i := 268) (by decide +kernel), List.mem_of_getElem? (i := 269) (by decide +kernel)⟩
theorem lw_p6 : lw_okq (⟨"LineCoder$Stirrer", "turning", "()I"⟩, 1) := ⟨⟨by decide +kernel, by decide +kernel⟩, List.mem_of_getElem? (i := 101) (by decide +kernel), List.mem_of_getElem? (i := 277) (by decide +kernel), List.mem_of_getElem? (i := 278) (by decide +kernel)⟩
theorem lw_p7 : lw_okq (⟨"LineCoder$Stirrer", "remember", "(I)V"⟩, 1) := ⟨⟨by decide +kernel, by decide +kernel⟩, List.mem_of_getElem? (i := 101) (by decide +kernel), List.mem_of_getElem? (i := 281) (by decide +kernel), List.mem_of_getElem? (i := 282) (by decide +kernel)⟩
theorem lw_p8 : lw_okq (⟨"LineCoder$WordReceiver", "watch", "(Z)V"⟩, 9) := ⟨⟨by decide +kernel, by decide +kernel⟩, List.mem_of_getElem? (i := 95) (by decide +kernel), List.mem_of_getElem? (i := 285) (by decide +kernel), List.mem_of_getElem? (i := 286) (by decide +kernel)⟩
theorem lw_p9 : lw_okq (⟨"LineCoder$WordReceiver", "gain", "()V"⟩, 9) := ⟨⟨by decide +kernel, by decide +kernel⟩, List.mem_of_getElem? (i := 95) (by decide +kernel), List.mem_of_getElem? (i := 291) (by decide +kernel), List.mem_of_getElem? (i := 292) (by decide +kernel)⟩
theorem lw_p10 : lw_okq (⟨"java/lang/Throwable", "fillInStackTrace", "(I)Ljava/lang/Throwable;"⟩, 6) := ⟨⟨by decide +kernel, by decide +kernel⟩, List.mem_of_getElem? (i := 391) (by decide +kernel), List.mem_of_getElem? (i := 389) (by decide +kernel), List.mem_of_getElem? (i := 390) (by decide +kernel)⟩
theorem lw_p11 : lw_okq (⟨"LineCoder", "lineOf", "(I)LLineCoder$Line;"⟩, 6) := ⟨⟨by decide +kernel, by decide +kernel⟩, List.mem_of_getElem? (i := 19) (by decide +kernel), List.mem_of_getElem? (i := 488) (by decide +kernel), List.mem_of_getElem? (i := 489) (by decide +kernel)⟩
theorem lw_p12 : lw_okq (⟨"LineCoderModel", "make", "(IZ)I"⟩, 23) := ⟨⟨by decide +kernel, by decide +kernel⟩, List.mem_of_getElem? (i := 601) (by decide +kernel), List.mem_of_getElem? (i := 610) (by decide +kernel), List.mem_of_getElem? (i := 611) (by decide +kernel)⟩
theorem lw_p13 : lw_okq (⟨"LineCoderModel", "empty", "()V"⟩, 23) := ⟨⟨by decide +kernel, by decide +kernel⟩, List.mem_of_getElem? (i := 601) (by decide +kernel), List.mem_of_getElem? (i := 620) (by decide +kernel), List.mem_of_getElem? (i := 621) (by decide +kernel)⟩
theorem lw_p14 : lw_okq (⟨"LineCoderModel", "refused", "(I)Z"⟩, 23) := ⟨⟨by decide +kernel, by decide +kernel⟩, List.mem_of_getElem? (i := 601) (by decide +kernel), List.mem_of_getElem? (i := 707) (by decide +kernel), List.mem_of_getElem? (i := 708) (by decide +kernel)⟩
theorem lw_p15 : lw_okq (⟨"LineCoderModel", "append", "(II)V"⟩, 23) := ⟨⟨by decide +kernel, by decide +kernel⟩, List.mem_of_getElem? (i := 601) (by decide +kernel), List.mem_of_getElem? (i := 722) (by decide +kernel), List.mem_of_getElem? (i := 723) (by decide +kernel)⟩
def lw_privs_1 : List (MethodName × Nat) := [(⟨"LineCoder$TenReceiver", "isAtMark", "()Z"⟩, 9), (⟨"LineCoder$TenReceiver", "takeTen", "()I"⟩, 9), (⟨"LineCoder$TenReceiver", "judge", "(IZ)I"⟩, 9), (⟨"LineCoder$TenReceiver", "mark", "()V"⟩, 9), (⟨"LineCoder$TenReceiver", "praise", "()V"⟩, 9), (⟨"LineCoder$WordReceiver", "takeWord", "()V"⟩, 9), (⟨"LineCoder$Stirrer", "turning", "()I"⟩, 1), (⟨"LineCoder$Stirrer", "remember", "(I)V"⟩, 1), (⟨"LineCoder$WordReceiver", "watch", "(Z)V"⟩, 9), (⟨"LineCoder$WordReceiver", "gain", "()V"⟩, 9), (⟨"java/lang/Throwable", "fillInStackTrace", "(I)Ljava/lang/Throwable;"⟩, 6), (⟨"LineCoder", "lineOf", "(I)LLineCoder$Line;"⟩, 6), (⟨"LineCoderModel", "make", "(IZ)I"⟩, 23), (⟨"LineCoderModel", "empty", "()V"⟩, 23), (⟨"LineCoderModel", "refused", "(I)Z"⟩, 23), (⟨"LineCoderModel", "append", "(II)V"⟩, 23)]
theorem lw_r1 : ∀ q ∈ lw_privs_1, lw_okq q := List.forall_mem_cons.mpr ⟨lw_p0, List.forall_mem_cons.mpr ⟨lw_p1, List.forall_mem_cons.mpr ⟨lw_p2, List.forall_mem_cons.mpr ⟨lw_p3, List.forall_mem_cons.mpr ⟨lw_p4, List.forall_mem_cons.mpr ⟨lw_p5, List.forall_mem_cons.mpr ⟨lw_p6, List.forall_mem_cons.mpr ⟨lw_p7, List.forall_mem_cons.mpr ⟨lw_p8, List.forall_mem_cons.mpr ⟨lw_p9, List.forall_mem_cons.mpr ⟨lw_p10, List.forall_mem_cons.mpr ⟨lw_p11, List.forall_mem_cons.mpr ⟨lw_p12, List.forall_mem_cons.mpr ⟨lw_p13, List.forall_mem_cons.mpr ⟨lw_p14, List.forall_mem_cons.mpr ⟨lw_p15, fun _ h => absurd h List.not_mem_nil⟩⟩⟩⟩⟩⟩⟩⟩⟩⟩⟩⟩⟩⟩⟩⟩
theorem lw_p16 : lw_okq (⟨"LineCoderModel", "bitsAt", "(II)I"⟩, 23) := ⟨⟨by decide +kernel, by decide +kernel⟩, List.mem_of_getElem? (i := 601) (by decide +kernel), List.mem_of_getElem? (i := 736) (by decide +kernel), List.mem_of_getElem? (i := 737) (by decide +kernel)⟩
theorem lw_p17 : lw_okq (⟨"LineCoderModel", "taken", "(I)I"⟩, 23) := ⟨⟨by decide +kernel, by decide +kernel⟩, List.mem_of_getElem? (i := 601) (by decide +kernel), List.mem_of_getElem? (i := 740) (by decide +kernel), List.mem_of_getElem? (i := 741) (by decide +kernel)⟩
theorem lw_p18 : lw_okq (⟨"LineCoderModel", "takeWord", "(I)V"⟩, 23) := ⟨⟨by decide +kernel, by decide +kernel⟩, List.mem_of_getElem? (i := 601) (by decide +kernel), List.mem_of_getElem? (i := 755) (by decide +kernel), List.mem_of_getElem? (i := 756) (by decide +kernel)⟩
theorem lw_p19 : lw_okq (⟨"LineCoderModel", "balance", "(I)I"⟩, 23) := ⟨⟨by decide +kernel, by decide +kernel⟩, List.mem_of_getElem? (i := 601) (by decide +kernel), List.mem_of_getElem? (i := 790) (by decide +kernel), List.mem_of_getElem? (i := 791) (by decide +kernel)⟩
theorem lw_p20 : lw_okq (⟨"LineCoderModel", "longest", "(I)I"⟩, 23) := ⟨⟨by decide +kernel, by decide +kernel⟩, List.mem_of_getElem? (i := 601) (by decide +kernel), List.mem_of_getElem? (i := 794) (by decide +kernel), List.mem_of_getElem? (i := 795) (by decide +kernel)⟩
def lw_privs_2 : List (MethodName × Nat) := [(⟨"LineCoderModel", "bitsAt", "(II)I"⟩, 23), (⟨"LineCoderModel", "taken", "(I)I"⟩, 23), (⟨"LineCoderModel", "takeWord", "(I)V"⟩, 23), (⟨"LineCoderModel", "balance", "(I)I"⟩, 23), (⟨"LineCoderModel", "longest", "(I)I"⟩, 23)]
theorem lw_r2 : ∀ q ∈ lw_privs_2, lw_okq q := List.forall_mem_cons.mpr ⟨lw_p16, List.forall_mem_cons.mpr ⟨lw_p17, List.forall_mem_cons.mpr ⟨lw_p18, List.forall_mem_cons.mpr ⟨lw_p19, List.forall_mem_cons.mpr ⟨lw_p20, fun _ h => absurd h List.not_mem_nil⟩⟩⟩⟩⟩
def lw_privs : List (MethodName × Nat) := lw_privs_1 ++ (lw_privs_2)
def lw_tbl : List Cond := k2_sels lw_privs ++ tables_1
theorem lw_privs_ok : ∀ q ∈ lw_privs, lw_okq q := by
  show ∀ q ∈ lw_privs_1 ++ (lw_privs_2), lw_okq q
  exact List.forall_mem_append.mpr ⟨lw_r1, lw_r2⟩
def T_L : u_T := fun k => match k with
  | 0 => ("LineCoder$Line", "bits", "[B", true)
  | 1 => ("LineCoder$Line", "size", "I", false)
  | _ => ("LineCoder$Line", "place", "I", false)
def ty_L : Nat → FieldType := fun k => match k with
  | 0 => .array .byte
  | 1 => .int
  | _ => .int
theorem nm_L : ∀ a, a < 3 → ∀ b, b < 3 → a ≠ b → (T_L a).2.1 ≠ (T_L b).2.1 := by decide +kernel
theorem ty_L_ok : ∀ k, k < 3 → parseFieldDescriptor (T_L k).2.2.1 = some (ty_L k) := by decide +kernel
def T_S : u_T := fun k => match k with
  | _ => ("LineCoder$Stirrer", "past", "J", false)
def ty_S : Nat → FieldType := fun k => match k with
  | _ => .long
theorem nm_S : ∀ a, a < 1 → ∀ b, b < 1 → a ≠ b → (T_S a).2.1 ≠ (T_S b).2.1 := by decide +kernel
theorem ty_S_ok : ∀ k, k < 1 → parseFieldDescriptor (T_S k).2.2.1 = some (ty_S k) := by decide +kernel
def T_T : u_T := fun k => match k with
  | 0 => ("LineCoder$Receiver", "line", "LLineCoder$Line;", true)
  | 1 => ("LineCoder$Receiver", "following", "Z", false)
  | 2 => ("LineCoder$Receiver", "slips", "I", false)
  | 3 => ("LineCoder$Receiver", "bads", "I", false)
  | 4 => ("LineCoder$Receiver", "wrongs", "I", false)
  | 5 => ("LineCoder$TenReceiver", "plus", "Z", false)
  | 6 => ("LineCoder$TenReceiver", "first", "Z", false)
  | 7 => ("LineCoder$TenReceiver", "marks", "I", false)
  | _ => ("LineCoder$TenReceiver", "row", "I", false)
def ty_T : Nat → FieldType := fun k => match k with
  | 0 => .object "LineCoder$Line"
  | 1 => .boolean
  | 2 => .int
  | 3 => .int
  | 4 => .int
  | 5 => .boolean
  | 6 => .boolean
  | 7 => .int
  | _ => .int
theorem nm_T : ∀ a, a < 9 → ∀ b, b < 9 → a ≠ b → (T_T a).2.1 ≠ (T_T b).2.1 := by decide +kernel
theorem ty_T_ok : ∀ k, k < 9 → parseFieldDescriptor (T_T k).2.2.1 = some (ty_T k) := by decide +kernel
def T_W : u_T := fun k => match k with
  | 0 => ("LineCoder$Receiver", "line", "LLineCoder$Line;", true)
  | 1 => ("LineCoder$Receiver", "following", "Z", false)
  | 2 => ("LineCoder$Receiver", "slips", "I", false)
  | 3 => ("LineCoder$Receiver", "bads", "I", false)
  | 4 => ("LineCoder$Receiver", "wrongs", "I", false)
  | 5 => ("LineCoder$WordReceiver", "received", "LLineCoder$Stirrer;", true)
  | 6 => ("LineCoder$WordReceiver", "goodRow", "I", false)
  | 7 => ("LineCoder$WordReceiver", "lately", "I", false)
  | _ => ("LineCoder$WordReceiver", "last", "J", false)
def ty_W : Nat → FieldType := fun k => match k with
  | 0 => .object "LineCoder$Line"
  | 1 => .boolean
  | 2 => .int
  | 3 => .int
  | 4 => .int
  | 5 => .object "LineCoder$Stirrer"
  | 6 => .int
  | 7 => .int
  | _ => .long
theorem nm_W : ∀ a, a < 9 → ∀ b, b < 9 → a ≠ b → (T_W a).2.1 ≠ (T_W b).2.1 := by decide +kernel
theorem ty_W_ok : ∀ k, k < 9 → parseFieldDescriptor (T_W k).2.2.1 = some (ty_W k) := by decide +kernel
def T_X : u_T := fun k => match k with
  | 0 => ("LineCoder", "tenLine", "LLineCoder$Line;", true)
  | 1 => ("LineCoder", "wordLine", "LLineCoder$Line;", true)
  | 2 => ("LineCoder", "tenReceiver", "LLineCoder$TenReceiver;", true)
  | 3 => ("LineCoder", "wordReceiver", "LLineCoder$WordReceiver;", true)
  | 4 => ("LineCoder", "sentWords", "LLineCoder$Stirrer;", true)
  | _ => ("LineCoder", "senderPlus", "Z", false)
def ty_X : Nat → FieldType := fun k => match k with
  | 0 => .object "LineCoder$Line"
  | 1 => .object "LineCoder$Line"
  | 2 => .object "LineCoder$TenReceiver"
  | 3 => .object "LineCoder$WordReceiver"
  | 4 => .object "LineCoder$Stirrer"
  | _ => .boolean
theorem nm_X : ∀ a, a < 6 → ∀ b, b < 6 → a ≠ b → (T_X a).2.1 ≠ (T_X b).2.1 := by decide +kernel
theorem ty_X_ok : ∀ k, k < 6 → parseFieldDescriptor (T_X k).2.2.1 = some (ty_X k) := by decide +kernel
def T_M : u_T := fun k => match k with
  | 0 => ("LineCoderModel", "refusal", "I", false)
  | 1 => ("LineCoderModel", "sixes", "[I", true)
  | 2 => ("LineCoderModel", "fours", "[I", true)
  | 3 => ("LineCoderModel", "codes", "[I", true)
  | 4 => ("LineCoderModel", "symbolOf", "[I", true)
  | 5 => ("LineCoderModel", "bits", "[I", true)
  | 6 => ("LineCoderModel", "size", "[I", true)
  | 7 => ("LineCoderModel", "place", "[I", true)
  | 8 => ("LineCoderModel", "follows", "[Z", true)
  | 9 => ("LineCoderModel", "marks", "[I", true)
  | 10 => ("LineCoderModel", "slips", "[I", true)
  | 11 => ("LineCoderModel", "bads", "[I", true)
  | 12 => ("LineCoderModel", "wrongs", "I", false)
  | 13 => ("LineCoderModel", "senderPlus", "Z", false)
  | 14 => ("LineCoderModel", "receiverPlus", "Z", false)
  | 15 => ("LineCoderModel", "isFirst", "Z", false)
  | 16 => ("LineCoderModel", "good", "I", false)
  | 17 => ("LineCoderModel", "sentBits", "[I", true)
  | 18 => ("LineCoderModel", "gotBits", "[I", true)
  | 19 => ("LineCoderModel", "lately", "I", false)
  | 20 => ("LineCoderModel", "since", "I", false)
  | 21 => ("LineCoderModel", "last", "J", false)
  | _ => ("LineCoderModel", "running", "Z", false)
def ty_M : Nat → FieldType := fun k => match k with
  | 0 => .int
  | 1 => .array .int
  | 2 => .array .int
  | 3 => .array .int
  | 4 => .array .int
  | 5 => .array .int
  | 6 => .array .int
  | 7 => .array .int
  | 8 => .array .boolean
  | 9 => .array .int
  | 10 => .array .int
  | 11 => .array .int
  | 12 => .int
  | 13 => .boolean
  | 14 => .boolean
  | 15 => .boolean
  | 16 => .int
  | 17 => .array .int
  | 18 => .array .int
  | 19 => .int
  | 20 => .int
  | 21 => .long
  | _ => .boolean
theorem nm_M : ∀ a, a < 23 → ∀ b, b < 23 → a ≠ b → (T_M a).2.1 ≠ (T_M b).2.1 := by decide +kernel
theorem ty_M_ok : ∀ k, k < 23 → parseFieldDescriptor (T_M k).2.2.1 = some (ty_M k) := by decide +kernel
abbrev vwCl : List vw_C := [("LineCoder$Line", T_L, 3), ("LineCoder$Stirrer", T_S, 1), ("LineCoder$TenReceiver", T_T, 9), ("LineCoder$WordReceiver", T_W, 9), ("LineCoder", T_X, 6), ("LineCoderModel", T_M, 23)]
def y_X_init : MethodName := ⟨"LineCoder", "<init>", "()V"⟩
def y_L_init : MethodName := ⟨"LineCoder$Line", "<init>", "()V"⟩
def y_T_init : MethodName := ⟨"LineCoder$TenReceiver", "<init>", "(LLineCoder$Line;)V"⟩
def y_R_init : MethodName := ⟨"LineCoder$Receiver", "<init>", "(LLineCoder$Line;)V"⟩
def y_W_init : MethodName := ⟨"LineCoder$WordReceiver", "<init>", "(LLineCoder$Line;)V"⟩
def y_S_init : MethodName := ⟨"LineCoder$Stirrer", "<init>", "()V"⟩
def y_X_receive : MethodName := ⟨"LineCoder", "receive", "()I"⟩
def y_T_step : MethodName := ⟨"LineCoder$TenReceiver", "step", "()I"⟩
def y_L_left : MethodName := ⟨"LineCoder$Line", "left", "()I"⟩
def y_T_isAtMark : MethodName := ⟨"LineCoder$TenReceiver", "isAtMark", "()Z"⟩
def y_L_ahead : MethodName := ⟨"LineCoder$Line", "ahead", "(I)I"⟩
def y_L_at : MethodName := ⟨"LineCoder$Line", "at", "(I)I"⟩
def y_L_has : MethodName := ⟨"LineCoder$Line", "has", "(I)Z"⟩
def y_R_slip : MethodName := ⟨"LineCoder$Receiver", "slip", "()I"⟩
def y_L_advance : MethodName := ⟨"LineCoder$Line", "advance", "(I)V"⟩
def y_JM_min : MethodName := ⟨"java/lang/Math", "min", "(II)I"⟩
def y_T_takeTen : MethodName := ⟨"LineCoder$TenReceiver", "takeTen", "()I"⟩
def y_K_decode : MethodName := ⟨"LineCoder$TenCode", "decode", "(IZ)I"⟩
def y_K_xOf : MethodName := ⟨"LineCoder$TenCode", "xOf", "(IZ)I"⟩
def y_K_sixOf : MethodName := ⟨"LineCoder$TenCode", "sixOf", "(IZ)I"⟩
def y_JI_bitCount : MethodName := ⟨"java/lang/Integer", "bitCount", "(I)I"⟩
def y_K_isSymbol : MethodName := ⟨"LineCoder$TenCode", "isSymbol", "(I)Z"⟩
def y_K_isAmong : MethodName := ⟨"LineCoder$TenCode", "isAmong", "(II)Z"⟩
def y_K_encode : MethodName := ⟨"LineCoder$TenCode", "encode", "(IZ)I"⟩
def y_K_plusBehindSix : MethodName := ⟨"LineCoder$TenCode", "plusBehindSix", "(IZ)Z"⟩
def y_K_fourOf : MethodName := ⟨"LineCoder$TenCode", "fourOf", "(IZ)I"⟩
def y_K_plusBehind : MethodName := ⟨"LineCoder$TenCode", "plusBehind", "(IZ)Z"⟩
def y_K_plusBehindFour : MethodName := ⟨"LineCoder$TenCode", "plusBehindFour", "(IZ)Z"⟩
def y_T_judge : MethodName := ⟨"LineCoder$TenReceiver", "judge", "(IZ)I"⟩
def y_T_mark : MethodName := ⟨"LineCoder$TenReceiver", "mark", "()V"⟩
def y_T_praise : MethodName := ⟨"LineCoder$TenReceiver", "praise", "()V"⟩
def y_JM_max : MethodName := ⟨"java/lang/Math", "max", "(II)I"⟩
def y_X_take : MethodName := ⟨"LineCoder", "take", "()I"⟩
def y_W_step : MethodName := ⟨"LineCoder$WordReceiver", "step", "()I"⟩
def y_W_takeWord : MethodName := ⟨"LineCoder$WordReceiver", "takeWord", "()V"⟩
def y_S_stirBack : MethodName := ⟨"LineCoder$Stirrer", "stirBack", "(I)I"⟩
def y_S_turning : MethodName := ⟨"LineCoder$Stirrer", "turning", "()I"⟩
def y_S_remember : MethodName := ⟨"LineCoder$Stirrer", "remember", "(I)V"⟩
def y_W_watch : MethodName := ⟨"LineCoder$WordReceiver", "watch", "(Z)V"⟩
def y_W_gain : MethodName := ⟨"LineCoder$WordReceiver", "gain", "()V"⟩
def y_X_word : MethodName := ⟨"LineCoder", "word", "()J"⟩
def y_W_lastWord : MethodName := ⟨"LineCoder$WordReceiver", "lastWord", "()J"⟩
def y_X_isPlus : MethodName := ⟨"LineCoder", "isPlus", "(Z)Z"⟩
def y_T_hasPlus : MethodName := ⟨"LineCoder$TenReceiver", "hasPlus", "()Z"⟩
def y_X_clear : MethodName := ⟨"LineCoder", "clear", "()V"⟩
def y_L_empty : MethodName := ⟨"LineCoder$Line", "empty", "()V"⟩
def y_T_restart : MethodName := ⟨"LineCoder$TenReceiver", "restart", "()V"⟩
def y_R_countAnew : MethodName := ⟨"LineCoder$Receiver", "countAnew", "()V"⟩
def y_W_restart : MethodName := ⟨"LineCoder$WordReceiver", "restart", "()V"⟩
def y_S_forget : MethodName := ⟨"LineCoder$Stirrer", "forget", "()V"⟩
def y_Q_code : MethodName := ⟨"LineCoderLaw", "code", "(LLineCoder;IZ[J)I"⟩
def y_X_code : MethodName := ⟨"LineCoder", "code", "(IZ)I"⟩
def y_X_refuseNoSymbol : MethodName := ⟨"LineCoder", "refuseNoSymbol", "(I)V"⟩
def y_Q_symbol : MethodName := ⟨"LineCoderLaw", "symbol", "(LLineCoder;I[J)I"⟩
def y_X_symbol : MethodName := ⟨"LineCoder", "symbol", "(I)I"⟩
def y_Q_send : MethodName := ⟨"LineCoderLaw", "send", "(LLineCoder;I[J)I"⟩
def y_X_send : MethodName := ⟨"LineCoder", "send", "(I)I"⟩
def y_X_refuseNoRoom : MethodName := ⟨"LineCoder", "refuseNoRoom", "(LLineCoder$Line;I)V"⟩
def y_L_hasRoom : MethodName := ⟨"LineCoder$Line", "hasRoom", "(I)Z"⟩
def y_L_append : MethodName := ⟨"LineCoder$Line", "append", "(II)V"⟩
def y_Q_put : MethodName := ⟨"LineCoderLaw", "put", "(LLineCoder;JZ[J)I"⟩
def y_X_put : MethodName := ⟨"LineCoder", "put", "(JZ)I"⟩
def y_S_stir : MethodName := ⟨"LineCoder$Stirrer", "stir", "(I)I"⟩
def y_L_size : MethodName := ⟨"LineCoder$Line", "size", "()I"⟩
def y_Q_raw : MethodName := ⟨"LineCoderLaw", "raw", "(LLineCoder;III[J)I"⟩
def y_X_raw : MethodName := ⟨"LineCoder", "raw", "(III)I"⟩
def y_X_lineOf : MethodName := ⟨"LineCoder", "lineOf", "(I)LLineCoder$Line;"⟩
def y_Q_bend : MethodName := ⟨"LineCoderLaw", "bend", "(LLineCoder;II[J)I"⟩
def y_X_bend : MethodName := ⟨"LineCoder", "bend", "(II)Z"⟩
def y_L_turn : MethodName := ⟨"LineCoder$Line", "turn", "(I)V"⟩
def y_Q_lose : MethodName := ⟨"LineCoderLaw", "lose", "(LLineCoder;III[J)I"⟩
def y_X_lose : MethodName := ⟨"LineCoder", "lose", "(III)I"⟩
def y_L_place : MethodName := ⟨"LineCoder$Line", "place", "()I"⟩
def y_L_remove : MethodName := ⟨"LineCoder$Line", "remove", "(II)I"⟩
def y_Q_bit : MethodName := ⟨"LineCoderLaw", "bit", "(LLineCoder;II[J)I"⟩
def y_X_bit : MethodName := ⟨"LineCoder", "bit", "(II)I"⟩
def y_Q_count : MethodName := ⟨"LineCoderLaw", "count", "(LLineCoder;II[J)I"⟩
def y_X_count : MethodName := ⟨"LineCoder", "count", "(II)I"⟩
def y_R_isFollowing : MethodName := ⟨"LineCoder$Receiver", "isFollowing", "()Z"⟩
def y_T_marks : MethodName := ⟨"LineCoder$TenReceiver", "marks", "()I"⟩
def y_W_marks : MethodName := ⟨"LineCoder$WordReceiver", "marks", "()I"⟩
def y_R_slips : MethodName := ⟨"LineCoder$Receiver", "slips", "()I"⟩
def y_R_bads : MethodName := ⟨"LineCoder$Receiver", "bads", "()I"⟩
def y_R_wrongs : MethodName := ⟨"LineCoder$Receiver", "wrongs", "()I"⟩
def y_L_onesLessZeros : MethodName := ⟨"LineCoder$Line", "onesLessZeros", "()I"⟩
def y_L_longestRun : MethodName := ⟨"LineCoder$Line", "longestRun", "()I"⟩
def y_M_init : MethodName := ⟨"LineCoderModel", "<init>", "()V"⟩
def y_M_isSymbol : MethodName := ⟨"LineCoderModel", "isSymbol", "(I)Z"⟩
def y_M_make : MethodName := ⟨"LineCoderModel", "make", "(IZ)I"⟩
def y_M_ones : MethodName := ⟨"LineCoderModel", "ones", "(I)I"⟩
def y_M_behindSix : MethodName := ⟨"LineCoderModel", "behindSix", "(IZ)Z"⟩
def y_M_empty : MethodName := ⟨"LineCoderModel", "empty", "()V"⟩
def y_M_thrown : MethodName := ⟨"LineCoderModel", "thrown", "()I"⟩
def y_M_clear : MethodName := ⟨"LineCoderModel", "clear", "()V"⟩
def y_M_code : MethodName := ⟨"LineCoderModel", "code", "(IZ)I"⟩
def y_M_refused : MethodName := ⟨"LineCoderModel", "refused", "(I)Z"⟩
def y_M_symbol : MethodName := ⟨"LineCoderModel", "symbol", "(I)I"⟩
def y_M_isIn : MethodName := ⟨"LineCoderModel", "isIn", "(III)Z"⟩
def y_M_send : MethodName := ⟨"LineCoderModel", "send", "(I)I"⟩
def y_M_append : MethodName := ⟨"LineCoderModel", "append", "(II)V"⟩
def y_M_behind : MethodName := ⟨"LineCoderModel", "behind", "(IZ)Z"⟩
def y_M_behindFour : MethodName := ⟨"LineCoderModel", "behindFour", "(IZ)Z"⟩
def y_M_receive : MethodName := ⟨"LineCoderModel", "receive", "()I"⟩
def y_M_bitsAt : MethodName := ⟨"LineCoderModel", "bitsAt", "(II)I"⟩
def y_M_taken : MethodName := ⟨"LineCoderModel", "taken", "(I)I"⟩
def y_M_put : MethodName := ⟨"LineCoderModel", "put", "(JZ)I"⟩
def y_M_remember : MethodName := ⟨"LineCoderModel", "remember", "([II)V"⟩
def y_M_take : MethodName := ⟨"LineCoderModel", "take", "()I"⟩
def y_M_takeWord : MethodName := ⟨"LineCoderModel", "takeWord", "(I)V"⟩
def y_M_onesOf : MethodName := ⟨"LineCoderModel", "onesOf", "(I)I"⟩
def y_M_word : MethodName := ⟨"LineCoderModel", "word", "()J"⟩
def y_M_raw : MethodName := ⟨"LineCoderModel", "raw", "(III)I"⟩
def y_M_isStream : MethodName := ⟨"LineCoderModel", "isStream", "(I)Z"⟩
def y_M_bend : MethodName := ⟨"LineCoderModel", "bend", "(II)Z"⟩
def y_M_lose : MethodName := ⟨"LineCoderModel", "lose", "(III)I"⟩
def y_M_bit : MethodName := ⟨"LineCoderModel", "bit", "(II)I"⟩
def y_M_count : MethodName := ⟨"LineCoderModel", "count", "(II)I"⟩
def y_M_balance : MethodName := ⟨"LineCoderModel", "balance", "(I)I"⟩
def y_M_longest : MethodName := ⟨"LineCoderModel", "longest", "(I)I"⟩
def y_M_isPlus : MethodName := ⟨"LineCoderModel", "isPlus", "(Z)Z"⟩
