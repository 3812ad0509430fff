/-! THE CLAIM OUT OF ONE WALK OF THE LAW'S BODY. Your part is whole_start (and what it stands on); all else here is the same for every law, but numbers. -/
def R_law : String := "LineCoderLaw"
def lw_P (b : Addr) (xs : List Int32) (args : Array Value) (s : State) : Prop := args = #[.ref b] ∧ s.IntsAt b xs ∧ xs.length ≤ 2048 ∧ (Jvm.Cond.and given_1 narrow_1).before args s = true
def lw_Q (_ : Array Value) (s : State) (o : Outcome) (t : State) : Prop := o = .returned (some (.int 1)) ∧ Framed s o t [] 1057 21078
def lw_Z (below : List Frame) (a : Array Value) (s : State) : State → Prop := fun t => ∃ o, t.status = .running ∧ Ended t below o ∧ lw_Q a s o t
/-- the law's own end, with 1 on the stack, nothing written that was there before, its room as the claim has it -/
theorem lw_ret {p : Program} {l : Launch} {e : Env} {s : State} {m : MethodId} {below : List Frame} {meth : Method} {c : Code} {b : Nat} (hx : p.tables.exec = Jvm.exec) (hb : c.code = code) (hr : meth.sig.returnType = ret) (hlocks : meth.locks = false) {pc : Nat} {H : Heap} {ls : Array Slot} (hdg : decode code pc = .ok (.ireturn, 1)) : W p l e room_1 s m #[Value.ref b] below meth c H [] 1057 21078 (lw_Z below #[Value.ref b] s) (F0 m pc ls [.int 1]) := by
  intro T hT X
  obtain ⟨fs, hret, hrun, hended, hW, hframe⟩ := X.leave (v := some (.int 1)) (hlocks := hlocks) (fun h => by rw [hr] at h; cases h)
  have hmeth' : T.vm.method? m = some meth := X.method'
  refine ⟨T.setFrames fs, ?_, .returned (some (.int 1)), hrun, hended, rfl, ⟨_, rfl⟩, hW, hframe⟩
  jvm_step X.here [X.here.top, hx, hb, hdg, hmeth', hr, ret, narrow_b1]
  (try refine ⟨rfl, ?_⟩); (try refine ⟨rfl, ?_⟩)
  first | (intro acts; rw [hret _ acts rfl rfl rfl]) | rw [hret _ _ rfl rfl rfl]
  exact Steps.refl _
/-- what holds at the law's entry: the machine, the code, the tables' words (any of lw_tbl by 'hts w (by decide +kernel)'), the script of L ints xs at the cell b, what the Statement gives of the start (any of its parts by flat_of_before) -/
def lw_At (p : Program) (s : State) (m : MethodId) (meth : Method) (c : Code) (b L : Nat) (xs : Nat → Int32) : Prop :=
  p.tables.exec = Jvm.exec ∧ c.code = code ∧ meth.sig.returnType = ret ∧ c.maxLocals = 7 ∧ s.vm.findClass R_law = some m.cls ∧ (∀ w ∈ lw_tbl, w.before #[Value.ref b] s = true) ∧ va_X b L xs s s.heap ∧ b < s.heap.size ∧ meth.locks = false ∧ (Jvm.Cond.and given_1 narrow_1).before #[Value.ref b] s = true ∧ meth.name = "law" ∧ c.exceptionTable.toList.map (fun h => (h.startPc, h.endPc, h.handlerPc, h.catchType)) = []
theorem ar_k {args : Array Value} {s : State} {ty : FieldType} (h : (Cond.arrayClass ty).before args s = true) : ∃ cA : ClassId, ArrOfT s cA ty ∧ s.vm.findClass ("[" ++ ty.toString) = some cA := by
  obtain ⟨cA, kA, comp, h1, h2, h3⟩ := Cond.arrayClass_spec h
  exact ⟨cA, fun n z => ⟨fun k h => (by cases h), kA, h2, comp, h3⟩, h1⟩
theorem st_k {args : Array Value} {s : State} {n d : String} {A : Nat → Prop} (hl : (Cond.laysStatic Bundle.tN n d).before args s = true) (h : (Cond.isRef (.static Bundle.tN n d)).before args s = true) (hA : ∀ a : Nat, a < s.heap.size → ¬ A a) : xSt n d A s s.heap := by
  obtain ⟨c, k, i, f, a, cell, h1, h2, h3, h4, h5, h6, h7, h8, h9⟩ := Cond.laysStatic_spec hl
  obtain ⟨v, hq⟩ : ∃ v, cell.slots[f.slot]? = some v := ⟨cell.slots[f.slot], Array.getElem?_eq_getElem h8⟩
  have ev : (Term.static Bundle.tN n d).eval args s none [] s = some v := by
    simp [Term.eval, State.fieldNamed?, h2, h3, h4, h5, h6, hq]
  refine ⟨c, k, i, f, a, cell, v, h1, h2, h3, h4, h6, h7, h8, h9, hq, ?_, h5, hA a (Array.getElem?_eq_some_iff.mp h5).1⟩
  simp only [Cond.before, Cond.holds, Cond.value, ev] at h
  cases v <;> simp_all [Value.isRef]
def lw_fl : List Cond := flatC (Jvm.Cond.and given_1 narrow_1)
theorem six_m : ∀ j, j < 32 → Cond.eq (Term.elem (Term.static "LineCoder$TenCode" "SIX" "[I") (.int (Int32.ofNat j))) (.int (sixT j)) ∈ lw_fl := by decide +kernel
theorem four_m : ∀ j, j < 8 → Cond.eq (Term.elem (Term.static "LineCoder$TenCode" "FOUR" "[I") (.int (Int32.ofNat j))) (.int (fourT j)) ∈ lw_fl := by decide +kernel
theorem six_l : Cond.eq (Term.length (Term.static "LineCoder$TenCode" "SIX" "[I")) (.int (Int32.ofNat 32)) ∈ lw_fl ∧ Cond.arrayOf (Term.static "LineCoder$TenCode" "SIX" "[I") .int ∈ lw_fl := by decide +kernel
theorem four_l : Cond.eq (Term.length (Term.static "LineCoder$TenCode" "FOUR" "[I")) (.int (Int32.ofNat 8)) ∈ lw_fl ∧ Cond.arrayOf (Term.static "LineCoder$TenCode" "FOUR" "[I") .int ∈ lw_fl := by decide +kernel
theorem thr_m : Cond.isRef (.static Bundle.tN "UNASSIGNED_STACK" Bundle.steD) ∈ lw_fl ∧ Cond.isRef (.static Bundle.tN "SUPPRESSED_SENTINEL" Bundle.listD) ∈ lw_fl ∧ Cond.not (.castable "java/lang/IllegalStateException" "java/lang/IllegalArgumentException") ∈ lw_fl ∧ Cond.not (.castable "java/lang/IndexOutOfBoundsException" "java/lang/IllegalArgumentException") ∈ lw_fl := by decide +kernel
theorem lay_m {w : Cond} (i : Nat) (h : tables_1[i]? = some w) : w ∈ lw_tbl := List.mem_append_right _ (List.mem_of_getElem? h)
theorem lay_six : Cond.laysStatic "LineCoder$TenCode" "SIX" "[I" ∈ lw_tbl := lay_m 207 (by decide +kernel)
theorem lay_four : Cond.laysStatic "LineCoder$TenCode" "FOUR" "[I" ∈ lw_tbl := lay_m 232 (by decide +kernel)
theorem lay_una : Cond.laysStatic Bundle.tN "UNASSIGNED_STACK" Bundle.steD ∈ lw_tbl := lay_m 379 (by decide +kernel)
theorem lay_sup : Cond.laysStatic Bundle.tN "SUPPRESSED_SENTINEL" Bundle.listD ∈ lw_tbl := lay_m 381 (by decide +kernel)
set_option maxHeartbeats 4000000 in
theorem whole_base {p : Program} {s : State} {m : MethodId} {meth : Method} {c : Code} {b L : Nat} {xs : Nat → Int32} (C0 : lw_At p s m meth c b L xs) : ∃ E : xE, xB p s m #[Value.ref b] meth c E (xNew s.heap.size) "LineCoderLaw" code 7 (some .boolean) "law" [] := by
  obtain ⟨hx, hb, hr, hml, hown, hts, hX, hbl, hlk, hgv, hnm, hex⟩ := C0
  have hf : ∀ w ∈ lw_fl, w.before #[Value.ref b] s = true := flat_of_before _ hgv
  have hG : ∀ w ∈ xG, w.before #[Value.ref b] s = true := fun w hw => hts w (xG_in hw)
  have hA : ∀ a : Nat, a < s.heap.size → ¬ xNew s.heap.size a := fun a h1 h2 => absurd h1 (Nat.not_lt.mpr h2)
  obtain ⟨cL, iL, kL⟩ := u_known (C := "LineCoder$Line") (T := T_L) (N := 3) hG uw_L (hG _ w_27)
  obtain ⟨cS, iS, kS⟩ := u_known (C := "LineCoder$Stirrer") (T := T_S) (N := 1) hG uw_S (hG _ w_101)
  obtain ⟨cT, iT, kT⟩ := u_known (C := "LineCoder$TenReceiver") (T := T_T) (N := 9) hG uw_T (hG _ w_44)
  obtain ⟨cW, iW, kW⟩ := u_known (C := "LineCoder$WordReceiver") (T := T_W) (N := 9) hG uw_W (hG _ w_95)
  obtain ⟨cX, iX, kX⟩ := u_known (C := "LineCoder") (T := T_X) (N := 6) hG uw_X (hG _ w_19)
  obtain ⟨cM, iM, kM⟩ := u_known (C := "LineCoderModel") (T := T_M) (N := 23) hG uw_M (hG _ w_601)
  obtain ⟨aB, rB, fB⟩ := ar_k (hG _ w_42)
  obtain ⟨aI, rI, fI⟩ := ar_k (hG _ w_692)
  obtain ⟨aJ, rJ, fJ⟩ := ar_k (hG _ w_802)
  obtain ⟨aZ, rZ, fZ⟩ := ar_k (hG _ w_693)
  obtain ⟨t6, e6, v6⟩ := va_Tof (N := 32) (f := fun j => .int (sixT j)) (by decide) (hf _ six_l.2) (va_eqt (hf _ six_l.1)) (fun j hj => va_eqt (hf _ (six_m j hj))) hA
  obtain ⟨t4, e4, v4⟩ := va_Tof (N := 8) (f := fun j => .int (fourT j)) (by decide) (hf _ four_l.2) (va_eqt (hf _ four_l.1)) (fun j hj => va_eqt (hf _ (four_m j hj))) hA
  have hK : va_K (fun c => match c with | 0 => cL | 1 => cS | 2 => cT | 3 => cW | 4 => cX | _ => cM, fun c => match c with | 0 => iL | 1 => iS | 2 => iT | 3 => iW | 4 => iX | _ => iM) vwCl [(aB, .byte), (aI, .int), (aJ, .long), (aZ, .boolean)] s := by
    refine ⟨fun c q hq => ?_, fun k q hk => ?_⟩
    · have h6 : c < 6 := (List.getElem?_eq_some_iff.mp hq).1
      rcases (by omega : c = 0 ∨ c = 1 ∨ c = 2 ∨ c = 3 ∨ c = 4 ∨ c = 5) with h | h | h | h | h | h <;> subst h
      · obtain rfl : ("LineCoder$Line", T_L, 3) = q := Option.some.inj hq
        exact kL
      · obtain rfl : ("LineCoder$Stirrer", T_S, 1) = q := Option.some.inj hq
        exact kS
      · obtain rfl : ("LineCoder$TenReceiver", T_T, 9) = q := Option.some.inj hq
        exact kT
      · obtain rfl : ("LineCoder$WordReceiver", T_W, 9) = q := Option.some.inj hq
        exact kW
      · obtain rfl : ("LineCoder", T_X, 6) = q := Option.some.inj hq
        exact kX
      · obtain rfl : ("LineCoderModel", T_M, 23) = q := Option.some.inj hq
        exact kM
    · have h4 : k < 4 := (List.getElem?_eq_some_iff.mp hk).1
      rcases (by omega : k = 0 ∨ k = 1 ∨ k = 2 ∨ k = 3) with h | h | h | h <;> subst h
      · obtain rfl : (aB, FieldType.byte) = q := Option.some.inj hk
        exact ⟨rB, fB⟩
      · obtain rfl : (aI, FieldType.int) = q := Option.some.inj hk
        exact ⟨rI, fI⟩
      · obtain rfl : (aJ, FieldType.long) = q := Option.some.inj hk
        exact ⟨rJ, fJ⟩
      · obtain rfl : (aZ, FieldType.boolean) = q := Option.some.inj hk
        exact ⟨rZ, fZ⟩
  refine ⟨((fun c => match c with | 0 => cL | 1 => cS | 2 => cT | 3 => cW | 4 => cX | _ => cM, fun c => match c with | 0 => iL | 1 => iS | 2 => iT | 3 => iW | 4 => iX | _ => iM), fun j => match j with | 0 => aB | 1 => aI | 2 => aJ | 3 => aZ | 10 => t6 | _ => t4), hx, hb, hml, hown, hG, hK, ?_, hr, hlk, fun q h => h, hnm, fun q hq cell hc => absurd (Array.getElem?_eq_some_iff.mp hc).1 (Nat.not_lt.mpr hq), hex⟩
  exact ⟨⟨st_k (hts _ lay_una) (hf _ thr_m.1) hA, va_Nc.of (hf _ thr_m.2.2.1), va_Nc.of (hf _ thr_m.2.2.2)⟩, st_k (hts _ lay_sup) (hf _ thr_m.2.1) hA, va_Zref (hts _ lay_six) (hG _ w_8) e6 hA, v6, va_Zref (hts _ lay_four) (hG _ w_8) e4 hA, v4⟩
