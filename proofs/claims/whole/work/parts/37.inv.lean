/-! the law's state, its world, what holds of it -/
abbrev lAd : Type := (Nat) × (Nat) × (Nat) × (Nat) × (Nat) × (Nat) × (Nat) × (Nat) × (Nat) × (Nat) × (Nat) × (Nat) × (Nat) × (Nat) × (Nat) × (Nat) × (Nat) × (Nat) × (Nat) × (Nat) × (Nat) × (Nat) × (Nat) × (Nat)
abbrev lAd.hx (S : lAd) : Nat := S.1
abbrev lAd.h0 (S : lAd) : Nat := S.2.1
abbrev lAd.h1 (S : lAd) : Nat := S.2.2.1
abbrev lAd.ht (S : lAd) : Nat := S.2.2.2.1
abbrev lAd.hw (S : lAd) : Nat := S.2.2.2.2.1
abbrev lAd.hs (S : lAd) : Nat := S.2.2.2.2.2.1
abbrev lAd.hz (S : lAd) : Nat := S.2.2.2.2.2.2.1
abbrev lAd.a0 (S : lAd) : Nat := S.2.2.2.2.2.2.2.1
abbrev lAd.a1 (S : lAd) : Nat := S.2.2.2.2.2.2.2.2.1
abbrev lAd.hm (S : lAd) : Nat := S.2.2.2.2.2.2.2.2.2.1
abbrev lAd.ms (S : lAd) : Nat := S.2.2.2.2.2.2.2.2.2.2.1
abbrev lAd.mf (S : lAd) : Nat := S.2.2.2.2.2.2.2.2.2.2.2.1
abbrev lAd.mc (S : lAd) : Nat := S.2.2.2.2.2.2.2.2.2.2.2.2.1
abbrev lAd.my (S : lAd) : Nat := S.2.2.2.2.2.2.2.2.2.2.2.2.2.1
abbrev lAd.mb (S : lAd) : Nat := S.2.2.2.2.2.2.2.2.2.2.2.2.2.2.1
abbrev lAd.mz (S : lAd) : Nat := S.2.2.2.2.2.2.2.2.2.2.2.2.2.2.2.1
abbrev lAd.mp (S : lAd) : Nat := S.2.2.2.2.2.2.2.2.2.2.2.2.2.2.2.2.1
abbrev lAd.mo (S : lAd) : Nat := S.2.2.2.2.2.2.2.2.2.2.2.2.2.2.2.2.2.1
abbrev lAd.mm (S : lAd) : Nat := S.2.2.2.2.2.2.2.2.2.2.2.2.2.2.2.2.2.2.1
abbrev lAd.ml (S : lAd) : Nat := S.2.2.2.2.2.2.2.2.2.2.2.2.2.2.2.2.2.2.2.1
abbrev lAd.md (S : lAd) : Nat := S.2.2.2.2.2.2.2.2.2.2.2.2.2.2.2.2.2.2.2.2.1
abbrev lAd.me (S : lAd) : Nat := S.2.2.2.2.2.2.2.2.2.2.2.2.2.2.2.2.2.2.2.2.2.1
abbrev lAd.mg (S : lAd) : Nat := S.2.2.2.2.2.2.2.2.2.2.2.2.2.2.2.2.2.2.2.2.2.2.1
abbrev lAd.ho (S : lAd) : Nat := S.2.2.2.2.2.2.2.2.2.2.2.2.2.2.2.2.2.2.2.2.2.2.2
abbrev lAd.mk9 (hx : Nat) (h0 : Nat) (h1 : Nat) (ht : Nat) (hw : Nat) (hs : Nat) (hz : Nat) (a0 : Nat) (a1 : Nat) (hm : Nat) (ms : Nat) (mf : Nat) (mc : Nat) (my : Nat) (mb : Nat) (mz : Nat) (mp : Nat) (mo : Nat) (mm : Nat) (ml : Nat) (md : Nat) (me : Nat) (mg : Nat) (ho : Nat) : lAd := (hx, h0, h1, ht, hw, hs, hz, a0, a1, hm, ms, mf, mc, my, mb, mz, mp, mo, mm, ml, md, me, mg, ho)
abbrev lSt : Type := (Bool) × (Nat) × (Nat) × (Nat) × (Nat) × (Nat → Int32) × (Nat → Int32) × (Bool) × (Bool) × (Bool) × (Nat) × (Nat) × (Nat) × (Nat) × (Nat) × (Bool) × (Nat) × (Nat) × (Nat) × (Int64) × (Int64) × (Int64) × (Int32) × (Nat → Int32) × (Nat) × (Nat → Int32) × (Nat → Int32) × (Nat → Int64) × (Nat)
abbrev lSt.sp (S : lSt) : Bool := S.1
abbrev lSt.n0 (S : lSt) : Nat := S.2.1
abbrev lSt.p0 (S : lSt) : Nat := S.2.2.1
abbrev lSt.n1 (S : lSt) : Nat := S.2.2.2.1
abbrev lSt.p1 (S : lSt) : Nat := S.2.2.2.2.1
abbrev lSt.f0 (S : lSt) : Nat → Int32 := S.2.2.2.2.2.1
abbrev lSt.f1 (S : lSt) : Nat → Int32 := S.2.2.2.2.2.2.1
abbrev lSt.fo (S : lSt) : Bool := S.2.2.2.2.2.2.2.1
abbrev lSt.plus (S : lSt) : Bool := S.2.2.2.2.2.2.2.2.1
abbrev lSt.first (S : lSt) : Bool := S.2.2.2.2.2.2.2.2.2.1
abbrev lSt.sl (S : lSt) : Nat := S.2.2.2.2.2.2.2.2.2.2.1
abbrev lSt.bd (S : lSt) : Nat := S.2.2.2.2.2.2.2.2.2.2.2.1
abbrev lSt.wr (S : lSt) : Nat := S.2.2.2.2.2.2.2.2.2.2.2.2.1
abbrev lSt.mk (S : lSt) : Nat := S.2.2.2.2.2.2.2.2.2.2.2.2.2.1
abbrev lSt.rw (S : lSt) : Nat := S.2.2.2.2.2.2.2.2.2.2.2.2.2.2.1
abbrev lSt.fo1 (S : lSt) : Bool := S.2.2.2.2.2.2.2.2.2.2.2.2.2.2.2.1
abbrev lSt.sl1 (S : lSt) : Nat := S.2.2.2.2.2.2.2.2.2.2.2.2.2.2.2.2.1
abbrev lSt.bd1 (S : lSt) : Nat := S.2.2.2.2.2.2.2.2.2.2.2.2.2.2.2.2.2.1
abbrev lSt.gr (S : lSt) : Nat := S.2.2.2.2.2.2.2.2.2.2.2.2.2.2.2.2.2.2.1
abbrev lSt.last (S : lSt) : Int64 := S.2.2.2.2.2.2.2.2.2.2.2.2.2.2.2.2.2.2.2.1
abbrev lSt.w (S : lSt) : Int64 := S.2.2.2.2.2.2.2.2.2.2.2.2.2.2.2.2.2.2.2.2.1
abbrev lSt.wz (S : lSt) : Int64 := S.2.2.2.2.2.2.2.2.2.2.2.2.2.2.2.2.2.2.2.2.2.1
abbrev lSt.re (S : lSt) : Int32 := S.2.2.2.2.2.2.2.2.2.2.2.2.2.2.2.2.2.2.2.2.2.2.1
abbrev lSt.g (S : lSt) : Nat → Int32 := S.2.2.2.2.2.2.2.2.2.2.2.2.2.2.2.2.2.2.2.2.2.2.2.1
abbrev lSt.mk1 (S : lSt) : Nat := S.2.2.2.2.2.2.2.2.2.2.2.2.2.2.2.2.2.2.2.2.2.2.2.2.1
abbrev lSt.he (S : lSt) : Nat → Int32 := S.2.2.2.2.2.2.2.2.2.2.2.2.2.2.2.2.2.2.2.2.2.2.2.2.2.1
abbrev lSt.hg (S : lSt) : Nat → Int32 := S.2.2.2.2.2.2.2.2.2.2.2.2.2.2.2.2.2.2.2.2.2.2.2.2.2.2.1
abbrev lSt.o (S : lSt) : Nat → Int64 := S.2.2.2.2.2.2.2.2.2.2.2.2.2.2.2.2.2.2.2.2.2.2.2.2.2.2.2.1
abbrev lSt.v (S : lSt) : Nat := S.2.2.2.2.2.2.2.2.2.2.2.2.2.2.2.2.2.2.2.2.2.2.2.2.2.2.2.2
abbrev lSt.mk9 (sp : Bool) (n0 : Nat) (p0 : Nat) (n1 : Nat) (p1 : Nat) (f0 : Nat → Int32) (f1 : Nat → Int32) (fo : Bool) (plus : Bool) (first : Bool) (sl : Nat) (bd : Nat) (wr : Nat) (mk : Nat) (rw : Nat) (fo1 : Bool) (sl1 : Nat) (bd1 : Nat) (gr : Nat) (last : Int64) (w : Int64) (wz : Int64) (re : Int32) (g : Nat → Int32) (mk1 : Nat) (he : Nat → Int32) (hg : Nat → Int32) (o : Nat → Int64) (v : Nat) : lSt := (sp, n0, p0, n1, p1, f0, f1, fo, plus, first, sl, bd, wr, mk, rw, fo1, sl1, bd1, gr, last, w, wz, re, g, mk1, he, hg, o, v)
def wLS (E : xE) (d : lAd) (S : lSt) : va_W := [(d.hx, .inr (4, [.ref d.h0, .ref d.h1, .ref d.ht, .ref d.hw, .ref d.hz, .int (bI S.sp)])), (d.h0, .inr (0, [.ref d.a0, .int (nI (S.n0)), .int (nI (S.p0))])), (d.a0, .inl (E.2 0, 2640, .inl (S.f0))), (d.h1, .inr (0, [.ref d.a1, .int (nI (S.n1)), .int (nI (S.p1))])), (d.a1, .inl (E.2 0, 2640, .inl (S.f1))), (d.ht, .inr (2, [.ref d.h0, .int (bI S.fo), .int (nI (S.sl)), .int (nI (S.bd)), .int (nI (S.wr)), .int (bI S.plus), .int (bI S.first), .int (nI (S.mk)), .int (nI (S.rw))])), (d.hw, .inr (3, [.ref d.h1, .int (bI S.fo1), .int (nI (S.sl1)), .int (nI (S.bd1)), .int (nI ((0))), .ref d.hs, .int (nI (S.gr)), .int ((nI S.v)), .long (S.last)])), (d.hs, .inr (1, [.long (S.w)])), (d.hz, .inr (1, [.long (S.wz)])), (d.hm, .inr (5, [.int (S.re), .ref d.ms, .ref d.mf, .ref d.mc, .ref d.my, .ref d.mb, .ref d.mz, .ref d.mp, .ref d.mo, .ref d.mm, .ref d.ml, .ref d.md, .int (nI (S.wr)), .int (bI S.sp), .int (bI S.plus), .int (bI S.first), .int (nI (S.rw)), .ref d.me, .ref d.mg, .int ((nI S.v)), .int (nI 0), .long (S.last), .int 0])), (d.ms, .inl (E.2 1, 32, .inl (sxF 32))), (d.mf, .inl (E.2 1, 8, .inl (fxF 8))), (d.mc, .inl (E.2 1, 1024, .inl (cdL 1024))), (d.my, .inl (E.2 1, 1024, .inl (syL 1024))), (d.mb, .inl (E.2 1, 5280, .inl (S.g))), (d.mz, .inl (E.2 1, 2, .inl (pr2 (nI (S.n0)) (nI (S.n1))))), (d.mp, .inl (E.2 1, 2, .inl (pr2 (nI (S.p0)) (nI (S.p1))))), (d.mo, .inl (E.2 3, 2, .inl (pr2 (bI S.fo) (bI S.fo1)))), (d.mm, .inl (E.2 1, 2, .inl (pr2 (nI (S.mk)) (nI (S.mk1))))), (d.ml, .inl (E.2 1, 2, .inl (pr2 (nI (S.sl)) (nI (S.sl1))))), (d.md, .inl (E.2 1, 2, .inl (pr2 (nI (S.bd)) (nI (S.bd1))))), (d.me, .inl (E.2 1, 58, .inl (S.he))), (d.mg, .inl (E.2 1, 58, .inl (S.hg))), (d.ho, .inl (E.2 2, 1, .inr (.inl (S.o))))]
def lInv (S : lSt) : Prop := (rowR S.f0 S.g 0 S.n0) ∧ (bitR S.f0 S.n0) ∧ (rowR S.f1 S.g 2640 S.n1) ∧ (bitR S.f1 S.n1) ∧ (S.n0 ≤ 2640) ∧ (S.n1 ≤ 2640) ∧ (S.p0 ≤ S.n0) ∧ (S.p1 ≤ S.n1) ∧ (wbR S.wz S.he) ∧ (wbR S.w S.hg) ∧ (S.mk < 4) ∧ (S.rw < 4) ∧ (S.fo = false → S.rw = 0) ∧ (S.gr ≤ 8) ∧ (S.v < 65536) ∧ (S.fo1 = false → S.gr < 8 ∧ S.mk1 = S.gr) ∧ (S.fo1 = true → onF S.v 16 < 4 ∧ S.mk1 = onF S.v 16)
theorem lInv.r0 {S : lSt} (h : lInv S) : rowR S.f0 S.g 0 S.n0 := h.1
theorem lInv.b0 {S : lSt} (h : lInv S) : bitR S.f0 S.n0 := h.2.1
theorem lInv.r1 {S : lSt} (h : lInv S) : rowR S.f1 S.g 2640 S.n1 := h.2.2.1
theorem lInv.b1 {S : lSt} (h : lInv S) : bitR S.f1 S.n1 := h.2.2.2.1
theorem lInv.z0 {S : lSt} (h : lInv S) : S.n0 ≤ 2640 := h.2.2.2.2.1
theorem lInv.z1 {S : lSt} (h : lInv S) : S.n1 ≤ 2640 := h.2.2.2.2.2.1
theorem lInv.q0 {S : lSt} (h : lInv S) : S.p0 ≤ S.n0 := h.2.2.2.2.2.2.1
theorem lInv.q1 {S : lSt} (h : lInv S) : S.p1 ≤ S.n1 := h.2.2.2.2.2.2.2.1
theorem lInv.ws {S : lSt} (h : lInv S) : wbR S.wz S.he := h.2.2.2.2.2.2.2.2.1
theorem lInv.wg {S : lSt} (h : lInv S) : wbR S.w S.hg := h.2.2.2.2.2.2.2.2.2.1
theorem lInv.mk {S : lSt} (h : lInv S) : S.mk < 4 := h.2.2.2.2.2.2.2.2.2.2.1
theorem lInv.rw {S : lSt} (h : lInv S) : S.rw < 4 := h.2.2.2.2.2.2.2.2.2.2.2.1
theorem lInv.hu {S : lSt} (h : lInv S) : S.fo = false → S.rw = 0 := h.2.2.2.2.2.2.2.2.2.2.2.2.1
theorem lInv.gr {S : lSt} (h : lInv S) : S.gr ≤ 8 := h.2.2.2.2.2.2.2.2.2.2.2.2.2.1
theorem lInv.vl {S : lSt} (h : lInv S) : S.v < 65536 := h.2.2.2.2.2.2.2.2.2.2.2.2.2.2.1
theorem lInv.hn {S : lSt} (h : lInv S) : S.fo1 = false → S.gr < 8 ∧ S.mk1 = S.gr := h.2.2.2.2.2.2.2.2.2.2.2.2.2.2.2.1
theorem lInv.fl {S : lSt} (h : lInv S) : S.fo1 = true → onF S.v 16 < 4 ∧ S.mk1 = onF S.v 16 := h.2.2.2.2.2.2.2.2.2.2.2.2.2.2.2.2
/-- the locals of the law's loop -/
def lLv (b : Nat) (d : lAd) (i : Nat) : List (Nat × Value) := [(0, .ref b), (1, .ref d.hx), (2, .ref d.hm), (3, .ref d.ho), (4, .int (nI (i)))]
/-- a round's case: from its pc to 883 -/
def lRound (p : Program) (l : Launch) (e : Env) (s : State) (m : MethodId) (below : List Frame) (meth : Method) (c : Code) (E : xE) (A : Nat → Prop) (k n : Nat) (Q : State → Prop) (b : Nat) (d : lAd) (i pc : Nat) (S : lSt) : Prop :=
  (∀ S', lInv S' → xW p l e room_1 s m #[Value.ref b] below meth c 7 E A A (k + 1) (n + 6) Q (wLS E d S') 883 (lLv b d i) []) → xW p l e room_1 s m #[Value.ref b] below meth c 7 E A A k n Q (wLS E d S) pc (lLv b d i) []
set_option maxHeartbeats 4000000 in
theorem lr_0 {p : Program} {l : Launch} {e : Env} {s : State} {m : MethodId} {below : List Frame} {meth : Method} {c : Code} {E : xE} {A : Nat → Prop} {k n : Nat} {Q : State → Prop} {b L : Nat} {xs : Nat → Int32} {i : Nat} (hT : xNoTr l) (hB : xB p s m #[Value.ref b] meth c E A "LineCoderLaw" code 7 (some .boolean) "law" []) (hX : va_X b L xs s s.heap) (hbl : b < s.heap.size) (hbA : ¬ A b) (hL : L ≤ 2048) (hi : i + 4 ≤ L) (hk : k + 1 ≤ 1057) (hn : n + 6 ≤ 21078) {d : lAd} {S : lSt} (I : lInv S) : lRound p l e s m below meth c E A k n Q b d i 108 S := by
  intro kk
  rcases spl (xs (i + 1)) 512 (by decide) with ⟨j, hj, hx⟩ | h
  · cases hS : isS j
    · exact L_0b hT hB hX hbl hbA hL hi hk hn d.hx d.h0 d.h1 d.ht d.hw d.hs d.hz d.a0 d.a1 S.sp S.n0 S.p0 S.n1 S.p1 S.f0 S.f1 S.fo S.plus S.first S.sl S.bd S.wr S.mk S.rw S.fo1 S.sl1 S.bd1 0 S.gr (nI S.v) S.last S.w S.wz d.hm d.ms d.mf d.mc d.my d.mb d.mz d.mp d.mo d.mm d.ml d.md d.me d.mg S.re S.plus S.first S.rw (nI S.v) S.g S.mk1 S.he S.hg d.ho S.o j hj hS hx (kk (lSt.mk9 (S.sp) (S.n0) (S.p0) (S.n1) (S.p1) (S.f0) (S.f1) (S.fo) (S.plus) (S.first) (S.sl) (S.bd) (S.wr) (S.mk) (S.rw) (S.fo1) (S.sl1) (S.bd1) (S.gr) (S.last) (S.w) (S.wz) (nI 1) (S.g) (S.mk1) (S.he) (S.hg) (S.o) (S.v)) ⟨I.r0, I.b0, I.r1, I.b1, I.z0, I.z1, I.q0, I.q1, I.ws, I.wg, I.mk, I.rw, I.hu, I.gr, I.vl, I.hn, I.fl⟩)
    · exact L_0a hT hB hX hbl hbA hL hi hk hn d.hx d.h0 d.h1 d.ht d.hw d.hs d.hz d.a0 d.a1 S.sp S.n0 S.p0 S.n1 S.p1 S.f0 S.f1 S.fo S.plus S.first S.sl S.bd S.wr S.mk S.rw S.fo1 S.sl1 S.bd1 0 S.gr (nI S.v) S.last S.w S.wz d.hm d.ms d.mf d.mc d.my d.mb d.mz d.mp d.mo d.mm d.ml d.md d.me d.mg S.re S.plus S.first S.rw (nI S.v) S.g S.mk1 S.he S.hg d.ho S.o j hj hS hx (kk (lSt.mk9 (S.sp) (S.n0) (S.p0) (S.n1) (S.p1) (S.f0) (S.f1) (S.fo) (S.plus) (S.first) (S.sl) (S.bd) (S.wr) (S.mk) (S.rw) (S.fo1) (S.sl1) (S.bd1) (S.gr) (S.last) (S.w) (S.wz) (nI 0) (S.g) (S.mk1) (S.he) (S.hg) (vp_updL S.o 0 ((nI (encF j (decide (¬ xs (i + 2) = 0)))).toInt64)) (S.v)) ⟨I.r0, I.b0, I.r1, I.b1, I.z0, I.z1, I.q0, I.q1, I.ws, I.wg, I.mk, I.rw, I.hu, I.gr, I.vl, I.hn, I.fl⟩)
  · exact L_0o hT hB hX hbl hbA hL hi hk hn d.hx d.h0 d.h1 d.ht d.hw d.hs d.hz d.a0 d.a1 S.sp S.n0 S.p0 S.n1 S.p1 S.f0 S.f1 S.fo S.plus S.first S.sl S.bd S.wr S.mk S.rw S.fo1 S.sl1 S.bd1 0 S.gr (nI S.v) S.last S.w S.wz d.hm d.ms d.mf d.mc d.my d.mb d.mz d.mp d.mo d.mm d.ml d.md d.me d.mg S.re S.plus S.first S.rw (nI S.v) S.g S.mk1 S.he S.hg d.ho S.o rfl h (kk (lSt.mk9 (S.sp) (S.n0) (S.p0) (S.n1) (S.p1) (S.f0) (S.f1) (S.fo) (S.plus) (S.first) (S.sl) (S.bd) (S.wr) (S.mk) (S.rw) (S.fo1) (S.sl1) (S.bd1) (S.gr) (S.last) (S.w) (S.wz) (nI 1) (S.g) (S.mk1) (S.he) (S.hg) (S.o) (S.v)) ⟨I.r0, I.b0, I.r1, I.b1, I.z0, I.z1, I.q0, I.q1, I.ws, I.wg, I.mk, I.rw, I.hu, I.gr, I.vl, I.hn, I.fl⟩)
