theorem rcC_v {f : Nat → Int32} {n p : Nat} {fo : Bool} (hp : p ≤ n) : (rcC f n p fo = 0 ∧ fo = false) ∨ (rcC f n p fo = 1 ∧ p + 1 ≤ n ∧ fo = false) ∨ (rcC f n p fo = 2 ∧ fo = false) ∨ (rcC f n p fo = 3 ∧ p + 10 ≤ n ∧ fo = false) ∨ (rcC f n p fo = 4 ∧ fo = true) ∨ (rcC f n p fo = 5 ∧ p + 10 ≤ n) := by
  cases fo
  · by_cases h7 : n - p < 7
    · exact Or.inl ⟨by unfold rcC; simp [h7], rfl⟩
    · cases hM : atM f p
      · exact Or.inr (Or.inl ⟨by unfold rcC; simp [h7, hM], by omega, rfl⟩)
      · by_cases h10 : n - p < 10
        · exact Or.inr (Or.inr (Or.inl ⟨by unfold rcC; simp [h7, hM, h10], rfl⟩))
        · exact Or.inr (Or.inr (Or.inr (Or.inl ⟨by unfold rcC; simp [h7, hM, h10], by omega, rfl⟩)))
  · by_cases h10 : n - p < 10
    · exact Or.inr (Or.inr (Or.inr (Or.inr (Or.inl ⟨by unfold rcC; simp [h10], rfl⟩))))
    · exact Or.inr (Or.inr (Or.inr (Or.inr (Or.inr ⟨by unfold rcC; simp [h10], by omega⟩))))
theorem rcL_le {f : Nat → Int32} {n p : Nat} {fo : Bool} (hp : p ≤ n) : rcL (rcC f n p fo) p ≤ n := by
  rcases rcC_v (f := f) (fo := fo) hp with h | h | h | h | h | h <;> rw [h.1]
  · exact hp
  · exact h.2.1
  · exact hp
  · exact h.2.1
  · exact hp
  · exact h.2
theorem tk_b {mk rw k : Nat} (hm : mk < 4) (hw : rw < 4) : tkM mk rw k < 4 ∧ tkW rw k < 4 ∧ (tkO true mk k = false → tkW rw k = 0) := by
  unfold tkM tkW tkO mpF mkF rwF fkF
  by_cases h : k = 0
  · simp only [h, if_true]
    refine ⟨?_, ?_, fun q => by cases q⟩ <;> split <;> omega
  · simp only [h, if_false]
    refine ⟨?_, by omega, fun _ => by first | rfl | trivial⟩
    split <;> omega
theorem rc_b {f : Nat → Int32} {n p : Nat} {fo : Bool} {ten mk rw : Nat} {plus first : Bool} (hp : p ≤ n) (hm : mk < 4) (hw : rw < 4) (hu : fo = false → rw = 0) : rcM (rcC f n p fo) ten plus first mk rw < 4 ∧ rcW (rcC f n p fo) ten plus first rw < 4 ∧ (rcO (rcC f n p fo) ten plus first mk = false → rcW (rcC f n p fo) ten plus first rw = 0) := by
  rcases rcC_v (f := f) (fo := fo) hp with h | h | h | h | h | h <;> rw [h.1]
  · exact ⟨hm, hw, fun _ => hu h.2⟩
  · exact ⟨hm, hw, fun _ => hu h.2.2⟩
  · exact ⟨hm, hw, fun _ => hu h.2⟩
  · exact tk_b hm hw
  · exact ⟨hm, hw, fun q => by cases q⟩
  · exact tk_b hm hw
theorem rc_row2 {α : Type} (F : Nat → Nat → α) {v0 v1 v2 v4 : α} (e0 : ∀ a, F 0 a = v0) (e1 : ∀ a, F 1 a = v1) (e2 : ∀ a, F 2 a = v2) (e4 : ∀ a, F 4 a = v4) {f g : Nat → Int32} {n p : Nat} {fo : Bool} (hr : rowR f g 0 n) (hp : p ≤ n) : F (rcC f n p fo) (ahN f p 10) = F (rcC g n p fo) (ahN g p 10) :=
  rc_row F (fun a b => (e0 a).trans (e0 b).symm) (fun a b => (e1 a).trans (e1 b).symm) (fun a b => (e2 a).trans (e2 b).symm) (fun a b => (e4 a).trans (e4 b).symm) hr hp
set_option maxHeartbeats 4000000 in
theorem lr_3 {p : Program} {l : Launch} {e : Env} {s : State} {m : MethodId} {below : List Frame} {meth : Method} {c : Code} {E : xE} {A : Nat → Prop} {k n : Nat} {Q : State → Prop} {b L : Nat} {xs : Nat → Int32} {i : Nat} (hT : xNoTr l) (hB : xB p s m #[Value.ref b] meth c E A "LineCoderLaw" code 7 (some .boolean) "law" []) (hX : va_X b L xs s s.heap) (hbl : b < s.heap.size) (hbA : ¬ A b) (hL : L ≤ 2048) (hi : i + 4 ≤ L) (hk : k + 1 ≤ 1057) (hn : n + 6 ≤ 21078) {d : lAd} {S : lSt} (I : lInv S) : lRound p l e s m below meth c E A k n Q b d i 304 S := by
  intro kk
  have eR : rcR (rcC S.f0 S.n0 S.p0 S.fo) (ahN S.f0 S.p0 10) S.plus S.first = rcR (rcC S.g S.n0 S.p0 S.fo) (ahN S.g S.p0 10) S.plus S.first := rc_row2 (fun c t => rcR c t S.plus S.first) (v0 := (-1 : Int32)) (v1 := (-3 : Int32)) (v2 := (-1 : Int32)) (v4 := (-1 : Int32)) (fun _ => rfl) (fun _ => rfl) (fun _ => rfl) (fun _ => rfl) I.r0 I.q0
  have eO : rcO (rcC S.f0 S.n0 S.p0 S.fo) (ahN S.f0 S.p0 10) S.plus S.first S.mk = rcO (rcC S.g S.n0 S.p0 S.fo) (ahN S.g S.p0 10) S.plus S.first S.mk := rc_row2 (fun c t => rcO c t S.plus S.first S.mk) (v0 := false) (v1 := false) (v2 := true) (v4 := true) (fun _ => rfl) (fun _ => rfl) (fun _ => rfl) (fun _ => rfl) I.r0 I.q0
  have eP : rcP (rcC S.f0 S.n0 S.p0 S.fo) (ahN S.f0 S.p0 10) S.plus S.first = rcP (rcC S.g S.n0 S.p0 S.fo) (ahN S.g S.p0 10) S.plus S.first := rc_row2 (fun c t => rcP c t S.plus S.first) (v0 := S.plus) (v1 := S.plus) (v2 := S.plus) (v4 := S.plus) (fun _ => rfl) (fun _ => rfl) (fun _ => rfl) (fun _ => rfl) I.r0 I.q0
  have eN1 : rcN 1 (rcC S.f0 S.n0 S.p0 S.fo) (ahN S.f0 S.p0 10) S.plus S.first S.bd = rcN 1 (rcC S.g S.n0 S.p0 S.fo) (ahN S.g S.p0 10) S.plus S.first S.bd := rc_row2 (fun c t => rcN 1 c t S.plus S.first S.bd) (v0 := S.bd) (v1 := S.bd) (v2 := S.bd) (v4 := S.bd) (fun _ => rfl) (fun _ => rfl) (fun _ => rfl) (fun _ => rfl) I.r0 I.q0
  have eN2 : rcN 2 (rcC S.f0 S.n0 S.p0 S.fo) (ahN S.f0 S.p0 10) S.plus S.first S.wr = rcN 2 (rcC S.g S.n0 S.p0 S.fo) (ahN S.g S.p0 10) S.plus S.first S.wr := rc_row2 (fun c t => rcN 2 c t S.plus S.first S.wr) (v0 := S.wr) (v1 := S.wr) (v2 := S.wr) (v4 := S.wr) (fun _ => rfl) (fun _ => rfl) (fun _ => rfl) (fun _ => rfl) I.r0 I.q0
  have eM : rcM (rcC S.f0 S.n0 S.p0 S.fo) (ahN S.f0 S.p0 10) S.plus S.first S.mk S.rw = rcM (rcC S.g S.n0 S.p0 S.fo) (ahN S.g S.p0 10) S.plus S.first S.mk S.rw := rc_row2 (fun c t => rcM c t S.plus S.first S.mk S.rw) (v0 := S.mk) (v1 := S.mk) (v2 := S.mk) (v4 := S.mk) (fun _ => rfl) (fun _ => rfl) (fun _ => rfl) (fun _ => rfl) I.r0 I.q0
  have eW : rcW (rcC S.f0 S.n0 S.p0 S.fo) (ahN S.f0 S.p0 10) S.plus S.first S.rw = rcW (rcC S.g S.n0 S.p0 S.fo) (ahN S.g S.p0 10) S.plus S.first S.rw := rc_row2 (fun c t => rcW c t S.plus S.first S.rw) (v0 := S.rw) (v1 := S.rw) (v2 := S.rw) (v4 := S.rw) (fun _ => rfl) (fun _ => rfl) (fun _ => rfl) (fun _ => rfl) I.r0 I.q0
  have eC : (rcC S.f0 S.n0 S.p0 S.fo) = (rcC S.g S.n0 S.p0 S.fo) := rcC_row I.r0 I.q0
  have hbg : ∀ i, i < S.n0 → S.g i = 0 ∨ S.g i = 1 := fun i hi => by
    have h := bit_g I.r0 I.b0 i hi
    rw [Nat.zero_add] at h
    exact h
  obtain ⟨c1, c2, c3⟩ := rc_b (f := S.f0) (ten := ahN S.f0 S.p0 10) (plus := S.plus) (first := S.first) I.q0 I.mk I.rw I.hu
  refine L_3 hT hB hX hbl hbA hL hi hk hn d.hx d.h0 d.h1 d.ht d.hw d.hs d.hz d.a0 d.a1 S.sp S.n0 S.p0 S.n1 S.p1 S.f0 S.f1 S.fo S.plus S.first S.sl S.bd S.wr S.mk S.rw S.fo1 S.sl1 S.bd1 0 S.gr (nI S.v) S.last S.w S.wz d.hm d.ms d.mf d.mc d.my d.mb d.mz d.mp d.mo d.mm d.ml d.md d.me d.mg S.re S.plus S.first S.rw (nI S.v) S.g S.mk1 S.he S.hg d.ho S.o I.z0 I.b0 hbg I.q0 I.mk I.rw I.rw I.hu eR ?_
  rw [← eN2, ← eP, ← eW, ← eO, ← eM, ← eN1, ← eC]
  have hl := rcL_le (f := S.f0) (fo := S.fo) I.q0
  generalize rcO (rcC S.f0 S.n0 S.p0 S.fo) (ahN S.f0 S.p0 10) S.plus S.first S.mk = vO at c3 ⊢
  generalize rcP (rcC S.f0 S.n0 S.p0 S.fo) (ahN S.f0 S.p0 10) S.plus S.first = vP
  generalize rcF (rcC S.f0 S.n0 S.p0 S.fo) S.first = vF
  generalize rcS (rcC S.f0 S.n0 S.p0 S.fo) S.sl = vS
  generalize rcN 1 (rcC S.f0 S.n0 S.p0 S.fo) (ahN S.f0 S.p0 10) S.plus S.first S.bd = vN1
  generalize rcN 2 (rcC S.f0 S.n0 S.p0 S.fo) (ahN S.f0 S.p0 10) S.plus S.first S.wr = vN2
  generalize rcM (rcC S.f0 S.n0 S.p0 S.fo) (ahN S.f0 S.p0 10) S.plus S.first S.mk S.rw = vM at c1 ⊢
  generalize rcW (rcC S.f0 S.n0 S.p0 S.fo) (ahN S.f0 S.p0 10) S.plus S.first S.rw = vW at c2 c3 ⊢
  generalize rcL (rcC S.f0 S.n0 S.p0 S.fo) S.p0 = vL at hl ⊢
  exact kk (lSt.mk9 (S.sp) (S.n0) (vL) (S.n1) (S.p1) (S.f0) (S.f1) (vO) (vP) (vF) (vS) (vN1) (vN2) (vM) (vW) (S.fo1) (S.sl1) (S.bd1) (S.gr) (S.last) (S.w) (S.wz) (nI 0) (S.g) (S.mk1) (S.he) (S.hg) (S.o) (S.v)) ⟨I.r0, I.b0, I.r1, I.b1, I.z0, I.z1, hl, I.q1, I.ws, I.wg, c1, c2, c3, I.gr, I.vl, I.hn, I.fl⟩
set_option maxHeartbeats 4000000 in
theorem lr_5 {p : Program} {l : Launch} {e : Env} {s : State} {m : MethodId} {below : List Frame} {meth : Method} {c : Code} {E : xE} {A : Nat → Prop} {k n : Nat} {Q : State → Prop} {b L : Nat} {xs : Nat → Int32} {i : Nat} (hT : xNoTr l) (hB : xB p s m #[Value.ref b] meth c E A "LineCoderLaw" code 7 (some .boolean) "law" []) (hX : va_X b L xs s s.heap) (hbl : b < s.heap.size) (hbA : ¬ A b) (hL : L ≤ 2048) (hi : i + 4 ≤ L) (hk : k + 1 ≤ 1057) (hn : n + 6 ≤ 21078) {d : lAd} {S : lSt} (I : lInv S) : lRound p l e s m below meth c E A k n Q b d i 433 S := by
  intro kk
  have hq1 := I.q1
  by_cases hc : S.n1 - S.p1 < 66
  · refine L_5_0 hT hB hX hbl hbA hL hi hk hn d.hx d.h0 d.h1 d.ht d.hw d.hs d.hz d.a0 d.a1 S.sp S.n0 S.p0 S.n1 S.p1 S.f0 S.f1 S.fo S.plus S.first S.sl S.bd S.wr S.mk S.rw S.fo1 S.sl1 S.bd1 0 S.gr (nI S.v) S.last S.w S.wz d.hm d.ms d.mf d.mc d.my d.mb d.mz d.mp d.mo d.mm d.ml d.md d.me d.mg S.re S.plus S.first S.rw (nI S.v) S.g S.mk1 S.he S.hg d.ho S.o S.v I.z1 I.b1 I.q1 I.gr hc (by rw [wcC_n hc]; rfl) ?_
    rw [wcC_n hc]
    exact kk (lSt.mk9 (S.sp) (S.n0) (S.p0) (S.n1) (S.p1) (S.f0) (S.f1) (S.fo) (S.plus) (S.first) (S.sl) (S.bd) (S.wr) (S.mk) (S.rw) (S.fo1) (S.sl1) (S.bd1) (S.gr) (S.last) (S.w) (S.wz) (nI 0) (S.g) (S.mk1) (S.he) (S.hg) (S.o) (S.v)) ⟨I.r0, I.b0, I.r1, I.b1, I.z0, I.z1, I.q0, I.q1, I.ws, I.wg, I.mk, I.rw, I.hu, I.gr, I.vl, I.hn, I.fl⟩
  · obtain ⟨tw1, tw2⟩ := tw_row (p := S.p1 + 2) I.r1 I.b1 I.wg 64 (by omega)
    rw [← Nat.add_assoc] at tw1 tw2
    have hG := gd_row I.r1 I.b1 (show S.p1 + 2 ≤ S.n1 by omega)
    have hb1 := I.b1 S.p1 (by omega)
    have hb2 := I.b1 (S.p1 + 1) (by omega)
    have hr1 := I.r1 S.p1 (by omega)
    have hl : S.p1 + 66 ≤ S.n1 := by omega
    cases hf : S.fo1
    · rw [show wLS E d S = wLS E d (lSt.mk9 (S.sp) (S.n0) (S.p0) (S.n1) (S.p1) (S.f0) (S.f1) (S.fo) (S.plus) (S.first) (S.sl) (S.bd) (S.wr) (S.mk) (S.rw) (false) (S.sl1) (S.bd1) (S.gr) (S.last) (S.w) (S.wz) (S.re) (S.g) (S.mk1) (S.he) (S.hg) (S.o) (S.v)) from by first | (rw [← hf]; done) | (rw [← hf]; rfl)]
      by_cases hi9 : S.g (2640 + S.p1) = S.g (2640 + S.p1 + 1)
      · rw [decide_eq_false (by exact fun h => h hi9)] at hG
        have hC : wcC S.f1 S.n1 S.p1 false = 1 := by rw [wcC_y hc, hG]; rfl
        refine L_5_1 hT hB hX hbl hbA hL hi hk hn d.hx d.h0 d.h1 d.ht d.hw d.hs d.hz d.a0 d.a1 S.sp S.n0 S.p0 S.n1 S.p1 S.f0 S.f1 S.fo S.plus S.first S.sl S.bd S.wr S.mk S.rw false S.sl1 S.bd1 0 S.gr (nI S.v) S.last S.w S.wz d.hm d.ms d.mf d.mc d.my d.mb d.mz d.mp d.mo d.mm d.ml d.md d.me d.mg S.re S.plus S.first S.rw (nI S.v) S.g S.mk1 S.he S.hg d.ho S.o S.v I.z1 I.b1 I.q1 I.gr hc hi9  (by rw [hC]; rfl) ?_
        rw [hC]
        exact kk (lSt.mk9 (S.sp) (S.n0) (S.p0) (S.n1) (S.p1 + 1) (S.f0) (S.f1) (S.fo) (S.plus) (S.first) (S.sl) (S.bd) (S.wr) (S.mk) (S.rw) (false) (S.sl1 + 1) (S.bd1) (0) (S.last) (S.w) (S.wz) (nI 0) (S.g) (0) (S.he) (S.hg) (S.o) (S.v)) ⟨I.r0, I.b0, I.r1, I.b1, I.z0, I.z1, I.q0, (show S.p1 + 1 ≤ S.n1 by omega), I.ws, I.wg, I.mk, I.rw, I.hu, (show 0 ≤ 8 by decide), I.vl, fun _ => ⟨(show 0 < 8 by decide), rfl⟩, (fun h => by cases h)⟩
      · rw [decide_eq_true (by exact hi9)] at hG
        have hC : wcC S.f1 S.n1 S.p1 false = 2 := by rw [wcC_y hc, hG]; rfl
        obtain ⟨hg8, hmk⟩ := I.hn hf
        by_cases h8 : 8 ≤ S.gr + 1
        · have eO : wcO 2 false S.gr (nI S.v) = true := decide_eq_true h8
          have eA : wcA 2 S.gr (nI S.v) = nI (0) := if_pos h8
          refine L_5_2 hT hB hX hbl hbA hL hi hk hn d.hx d.h0 d.h1 d.ht d.hw d.hs d.hz d.a0 d.a1 S.sp S.n0 S.p0 S.n1 S.p1 S.f0 S.f1 S.fo S.plus S.first S.sl S.bd S.wr S.mk S.rw false S.sl1 S.bd1 0 S.gr (nI S.v) S.last S.w S.wz d.hm d.ms d.mf d.mc d.my d.mb d.mz d.mp d.mo d.mm d.ml d.md d.me d.mg S.re S.plus S.first S.rw (nI S.v) S.g S.mk1 S.he S.hg d.ho S.o S.v I.z1 I.b1 I.q1 I.gr hc hi9 (by rw [hmk]; exact hg8) (by rw [hC]; exact (wcR_good hb1 hb2 hG).trans hr1) ?_
          rw [hC, eO, eA, hmk, decide_eq_true h8, if_pos h8, if_pos h8, ← tw1]
          exact kk (lSt.mk9 (S.sp) (S.n0) (S.p0) (S.n1) (S.p1 + 66) (S.f0) (S.f1) (S.fo) (S.plus) (S.first) (S.sl) (S.bd) (S.wr) (S.mk) (S.rw) (true) (S.sl1) (S.bd1) (S.gr + 1) ((twF S.f1 (S.p1 + 2) S.w 64).2) ((twF S.f1 (S.p1 + 2) S.w 64).1) (S.wz) (nI 0) (S.g) (0) (S.he) ((twG S.g (2640 + S.p1 + 2) S.hg 64).1) (S.o) (0)) ⟨I.r0, I.b0, I.r1, I.b1, I.z0, I.z1, I.q0, hl, I.ws, tw2, I.mk, I.rw, I.hu, (show S.gr + 1 ≤ 8 by omega), (show 0 < 65536 by decide), (fun h => by cases h), fun _ => (show onF 0 16 < 4 ∧ 0 = onF 0 16 by decide)⟩
        · have eO : wcO 2 false S.gr (nI S.v) = false := decide_eq_false h8
          have eA : wcA 2 S.gr (nI S.v) = nI (S.v) := if_neg h8
          refine L_5_2 hT hB hX hbl hbA hL hi hk hn d.hx d.h0 d.h1 d.ht d.hw d.hs d.hz d.a0 d.a1 S.sp S.n0 S.p0 S.n1 S.p1 S.f0 S.f1 S.fo S.plus S.first S.sl S.bd S.wr S.mk S.rw false S.sl1 S.bd1 0 S.gr (nI S.v) S.last S.w S.wz d.hm d.ms d.mf d.mc d.my d.mb d.mz d.mp d.mo d.mm d.ml d.md d.me d.mg S.re S.plus S.first S.rw (nI S.v) S.g S.mk1 S.he S.hg d.ho S.o S.v I.z1 I.b1 I.q1 I.gr hc hi9 (by rw [hmk]; exact hg8) (by rw [hC]; exact (wcR_good hb1 hb2 hG).trans hr1) ?_
          rw [hC, eO, eA, hmk, decide_eq_false h8, if_neg h8, if_neg h8, ← tw1]
          exact kk (lSt.mk9 (S.sp) (S.n0) (S.p0) (S.n1) (S.p1 + 66) (S.f0) (S.f1) (S.fo) (S.plus) (S.first) (S.sl) (S.bd) (S.wr) (S.mk) (S.rw) (false) (S.sl1) (S.bd1) (S.gr + 1) ((twF S.f1 (S.p1 + 2) S.w 64).2) ((twF S.f1 (S.p1 + 2) S.w 64).1) (S.wz) (nI 0) (S.g) (S.gr + 1) (S.he) ((twG S.g (2640 + S.p1 + 2) S.hg 64).1) (S.o) (S.v)) ⟨I.r0, I.b0, I.r1, I.b1, I.z0, I.z1, I.q0, hl, I.ws, tw2, I.mk, I.rw, I.hu, (show S.gr + 1 ≤ 8 by omega), I.vl, fun _ => ⟨(show S.gr + 1 < 8 by omega), rfl⟩, (fun h => by cases h)⟩
    · rw [show wLS E d S = wLS E d (lSt.mk9 (S.sp) (S.n0) (S.p0) (S.n1) (S.p1) (S.f0) (S.f1) (S.fo) (S.plus) (S.first) (S.sl) (S.bd) (S.wr) (S.mk) (S.rw) (true) (S.sl1) (S.bd1) (S.gr) (S.last) (S.w) (S.wz) (S.re) (S.g) (S.mk1) (S.he) (S.hg) (S.o) (S.v)) from by first | (rw [← hf]; done) | (rw [← hf]; rfl)]
      by_cases hi9 : S.g (2640 + S.p1) = S.g (2640 + S.p1 + 1)
      · rw [decide_eq_false (by exact fun h => h hi9)] at hG
        have hC : wcC S.f1 S.n1 S.p1 true = 4 := by rw [wcC_y hc, hG]; rfl
        have eW := wlF_N I.vl false
        have eT := lt4_N (laN_lt S.v false)
        have h16 : (onF (laN S.v false) 16) ≤ 4 := Nat.le_trans (on_la _ _) (by have := (I.fl hf).1; omega)
        by_cases h4 : (onF (laN S.v false) 16) < 4
        · have e4 : lt4 (wlF (nI S.v) false) = true := by rw [eW, eT]; exact decide_eq_true h4
          have eO : wcO 4 true S.gr (nI S.v) = true := e4
          have eG : wcG 4 S.gr (nI S.v) = S.gr := by
            show (if lt4 (wlF (nI S.v) false) then S.gr else 0) = S.gr
            rw [e4]
            rfl
          have eA : wcA 4 S.gr (nI S.v) = nI (laN S.v false) := eW
          have eM : mk4 (onF (laN S.v false) 16) = (onF (laN S.v false) 16) := if_pos h4
          refine L_5_4 hT hB hX hbl hbA hL hi hk hn d.hx d.h0 d.h1 d.ht d.hw d.hs d.hz d.a0 d.a1 S.sp S.n0 S.p0 S.n1 S.p1 S.f0 S.f1 S.fo S.plus S.first S.sl S.bd S.wr S.mk S.rw true S.sl1 S.bd1 0 S.gr (nI S.v) S.last S.w S.wz d.hm d.ms d.mf d.mc d.my d.mb d.mz d.mp d.mo d.mm d.ml d.md d.me d.mg S.re S.plus S.first S.rw (nI S.v) S.g S.mk1 S.he S.hg d.ho S.o S.v I.z1 I.b1 I.q1 I.gr hc hi9 I.vl h16 (by rw [hC]; rfl) ?_
          rw [hC, eO, eG, eA, eM, decide_eq_true h4, ← tw1]
          exact kk (lSt.mk9 (S.sp) (S.n0) (S.p0) (S.n1) (S.p1 + 66) (S.f0) (S.f1) (S.fo) (S.plus) (S.first) (S.sl) (S.bd) (S.wr) (S.mk) (S.rw) (true) (S.sl1) (S.bd1 + 1) (S.gr) ((twF S.f1 (S.p1 + 2) S.w 64).2) ((twF S.f1 (S.p1 + 2) S.w 64).1) (S.wz) (nI 0) (S.g) ((onF (laN S.v false) 16)) (S.he) ((twG S.g (2640 + S.p1 + 2) S.hg 64).1) (S.o) ((laN S.v false))) ⟨I.r0, I.b0, I.r1, I.b1, I.z0, I.z1, I.q0, hl, I.ws, tw2, I.mk, I.rw, I.hu, I.gr, laN_lt _ _, (fun h => by cases h), fun _ => ⟨h4, rfl⟩⟩
        · have e4 : lt4 (wlF (nI S.v) false) = false := by rw [eW, eT]; exact decide_eq_false h4
          have eO : wcO 4 true S.gr (nI S.v) = false := e4
          have eG : wcG 4 S.gr (nI S.v) = 0 := by
            show (if lt4 (wlF (nI S.v) false) then S.gr else 0) = 0
            rw [e4]
            rfl
          have eA : wcA 4 S.gr (nI S.v) = nI (laN S.v false) := eW
          have eM : mk4 (onF (laN S.v false) 16) = 0 := if_neg h4
          refine L_5_4 hT hB hX hbl hbA hL hi hk hn d.hx d.h0 d.h1 d.ht d.hw d.hs d.hz d.a0 d.a1 S.sp S.n0 S.p0 S.n1 S.p1 S.f0 S.f1 S.fo S.plus S.first S.sl S.bd S.wr S.mk S.rw true S.sl1 S.bd1 0 S.gr (nI S.v) S.last S.w S.wz d.hm d.ms d.mf d.mc d.my d.mb d.mz d.mp d.mo d.mm d.ml d.md d.me d.mg S.re S.plus S.first S.rw (nI S.v) S.g S.mk1 S.he S.hg d.ho S.o S.v I.z1 I.b1 I.q1 I.gr hc hi9 I.vl h16 (by rw [hC]; rfl) ?_
          rw [hC, eO, eG, eA, eM, decide_eq_false h4, ← tw1]
          exact kk (lSt.mk9 (S.sp) (S.n0) (S.p0) (S.n1) (S.p1 + 66) (S.f0) (S.f1) (S.fo) (S.plus) (S.first) (S.sl) (S.bd) (S.wr) (S.mk) (S.rw) (false) (S.sl1) (S.bd1 + 1) (0) ((twF S.f1 (S.p1 + 2) S.w 64).2) ((twF S.f1 (S.p1 + 2) S.w 64).1) (S.wz) (nI 0) (S.g) (0) (S.he) ((twG S.g (2640 + S.p1 + 2) S.hg 64).1) (S.o) ((laN S.v false))) ⟨I.r0, I.b0, I.r1, I.b1, I.z0, I.z1, I.q0, hl, I.ws, tw2, I.mk, I.rw, I.hu, (show 0 ≤ 8 by decide), laN_lt _ _, fun _ => ⟨(show 0 < 8 by decide), rfl⟩, (fun h => by cases h)⟩
      · rw [decide_eq_true (by exact hi9)] at hG
        have hC : wcC S.f1 S.n1 S.p1 true = 3 := by rw [wcC_y hc, hG]; rfl
        have eW := wlF_N I.vl true
        have eT := lt4_N (laN_lt S.v true)
        have h16 : (onF (laN S.v true) 16) ≤ 4 := Nat.le_trans (on_la _ _) (by have := (I.fl hf).1; omega)
        by_cases h4 : (onF (laN S.v true) 16) < 4
        · have e4 : lt4 (wlF (nI S.v) true) = true := by rw [eW, eT]; exact decide_eq_true h4
          have eO : wcO 3 true S.gr (nI S.v) = true := e4
          have eG : wcG 3 S.gr (nI S.v) = S.gr := by
            show (if lt4 (wlF (nI S.v) true) then S.gr else 0) = S.gr
            rw [e4]
            rfl
          have eA : wcA 3 S.gr (nI S.v) = nI (laN S.v true) := eW
          have eM : mk4 (onF (laN S.v true) 16) = (onF (laN S.v true) 16) := if_pos h4
          refine L_5_3 hT hB hX hbl hbA hL hi hk hn d.hx d.h0 d.h1 d.ht d.hw d.hs d.hz d.a0 d.a1 S.sp S.n0 S.p0 S.n1 S.p1 S.f0 S.f1 S.fo S.plus S.first S.sl S.bd S.wr S.mk S.rw true S.sl1 S.bd1 0 S.gr (nI S.v) S.last S.w S.wz d.hm d.ms d.mf d.mc d.my d.mb d.mz d.mp d.mo d.mm d.ml d.md d.me d.mg S.re S.plus S.first S.rw (nI S.v) S.g S.mk1 S.he S.hg d.ho S.o S.v I.z1 I.b1 I.q1 I.gr hc hi9 I.vl h16 (by rw [hC]; exact (wcR_good hb1 hb2 hG).trans hr1) ?_
          rw [hC, eO, eG, eA, eM, decide_eq_true h4, ← tw1]
          exact kk (lSt.mk9 (S.sp) (S.n0) (S.p0) (S.n1) (S.p1 + 66) (S.f0) (S.f1) (S.fo) (S.plus) (S.first) (S.sl) (S.bd) (S.wr) (S.mk) (S.rw) (true) (S.sl1) (S.bd1) (S.gr) ((twF S.f1 (S.p1 + 2) S.w 64).2) ((twF S.f1 (S.p1 + 2) S.w 64).1) (S.wz) (nI 0) (S.g) ((onF (laN S.v true) 16)) (S.he) ((twG S.g (2640 + S.p1 + 2) S.hg 64).1) (S.o) ((laN S.v true))) ⟨I.r0, I.b0, I.r1, I.b1, I.z0, I.z1, I.q0, hl, I.ws, tw2, I.mk, I.rw, I.hu, I.gr, laN_lt _ _, (fun h => by cases h), fun _ => ⟨h4, rfl⟩⟩
        · have e4 : lt4 (wlF (nI S.v) true) = false := by rw [eW, eT]; exact decide_eq_false h4
          have eO : wcO 3 true S.gr (nI S.v) = false := e4
          have eG : wcG 3 S.gr (nI S.v) = 0 := by
            show (if lt4 (wlF (nI S.v) true) then S.gr else 0) = 0
            rw [e4]
            rfl
          have eA : wcA 3 S.gr (nI S.v) = nI (laN S.v true) := eW
          have eM : mk4 (onF (laN S.v true) 16) = 0 := if_neg h4
          refine L_5_3 hT hB hX hbl hbA hL hi hk hn d.hx d.h0 d.h1 d.ht d.hw d.hs d.hz d.a0 d.a1 S.sp S.n0 S.p0 S.n1 S.p1 S.f0 S.f1 S.fo S.plus S.first S.sl S.bd S.wr S.mk S.rw true S.sl1 S.bd1 0 S.gr (nI S.v) S.last S.w S.wz d.hm d.ms d.mf d.mc d.my d.mb d.mz d.mp d.mo d.mm d.ml d.md d.me d.mg S.re S.plus S.first S.rw (nI S.v) S.g S.mk1 S.he S.hg d.ho S.o S.v I.z1 I.b1 I.q1 I.gr hc hi9 I.vl h16 (by rw [hC]; exact (wcR_good hb1 hb2 hG).trans hr1) ?_
          rw [hC, eO, eG, eA, eM, decide_eq_false h4, ← tw1]
          exact kk (lSt.mk9 (S.sp) (S.n0) (S.p0) (S.n1) (S.p1 + 66) (S.f0) (S.f1) (S.fo) (S.plus) (S.first) (S.sl) (S.bd) (S.wr) (S.mk) (S.rw) (false) (S.sl1) (S.bd1) (0) ((twF S.f1 (S.p1 + 2) S.w 64).2) ((twF S.f1 (S.p1 + 2) S.w 64).1) (S.wz) (nI 0) (S.g) (0) (S.he) ((twG S.g (2640 + S.p1 + 2) S.hg 64).1) (S.o) ((laN S.v true))) ⟨I.r0, I.b0, I.r1, I.b1, I.z0, I.z1, I.q0, hl, I.ws, tw2, I.mk, I.rw, I.hu, (show 0 ≤ 8 by decide), laN_lt _ _, fun _ => ⟨(show 0 < 8 by decide), rfl⟩, (fun h => by cases h)⟩
