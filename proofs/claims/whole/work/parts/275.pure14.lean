/-! class against reference: rows -/
/-- the first n of a line's row and the reference's from b on -/
def rowR (f g : Nat → Int32) (b n : Nat) : Prop := ∀ i, i < n → f i = g (b + i)
def bitR (f : Nat → Int32) (n : Nat) : Prop := ∀ i, i < n → f i = 0 ∨ f i = 1
theorem bit_g {f g : Nat → Int32} {b n : Nat} (hr : rowR f g b n) (hb : bitR f n) : ∀ i, i < n → g (b + i) = 0 ∨ g (b + i) = 1 := fun i hi => by
  rw [← hr i hi]
  exact hb i hi
theorem row_upd {f g : Nat → Int32} {b n : Nat} {x : Int32} (hr : rowR f g b n) : rowR (upd f n x) (upd g (b + n) x) b (n + 1) := by
  intro i hi
  by_cases h : i = n
  · subst h; rw [pk_us, pk_us]
  · rw [pk_un h, pk_un (by omega)]
    exact hr i (by omega)
theorem row_in {f g : Nat → Int32} {b n j : Nat} {x : Int32} (hr : rowR f g b n) : rowR (upd f j x) (upd g (b + j) x) b n := by
  intro i hi
  by_cases h : i = j
  · subst h; rw [pk_us, pk_us]
  · rw [pk_un h, pk_un (by omega)]
    exact hr i (by omega)
theorem bit_upd {f : Nat → Int32} {n : Nat} {x : Int32} (hb : bitR f n) (hx : x = 0 ∨ x = 1) : bitR (upd f n x) (n + 1) := by
  intro i hi
  by_cases h : i = n
  · subst h; rw [pk_us]; exact hx
  · rw [pk_un h]
    exact hb i (by omega)
theorem bit_in {f : Nat → Int32} {n j : Nat} {x : Int32} (hb : bitR f n) (hx : x = 0 ∨ x = 1) : bitR (upd f j x) n := by
  intro i hi
  by_cases h : i = j
  · subst h; rw [pk_us]; exact hx
  · rw [pk_un h]
    exact hb i (by omega)
theorem ap_row {f g : Nat → Int32} {b n q : Nat} {x : Int32} (hq : q ≤ 32) (hr : rowR f g b n) : ∀ t, t ≤ q → rowR (apF f n x q t) (apG g b n x q t) b (n + t)
  | 0, _ => hr
  | t + 1, ht => by
    have ih := ap_row hq hr t (by omega) (x := x)
    rw [apF, apG, xs_bit x (by omega)]
    exact row_upd ih
theorem ap_bit {f : Nat → Int32} {n q : Nat} {x : Int32} (hb : bitR f n) : ∀ t, bitR (apF f n x q t) (n + t)
  | 0 => hb
  | t + 1 => by
    rw [apF]
    exact bit_upd (ap_bit hb t) (xbit01 _ _)
/-- what lies outside is as it was -/
theorem apG_out {g : Nat → Int32} {b n q : Nat} {x : Int32} {j : Nat} : ∀ t, (j < b + n ∨ b + n + t ≤ j) → apG g b n x q t j = g j
  | 0, _ => rfl
  | t + 1, h => by
    rw [apG, pk_un (by omega)]
    exact apG_out t (by omega)
theorem row_g {f g g' : Nat → Int32} {b n : Nat} (hr : rowR f g b n) (h : ∀ i, i < n → g' (b + i) = g (b + i)) : rowR f g' b n := fun i hi => by
  rw [h i hi]
  exact hr i hi
theorem ah_row {f g : Nat → Int32} {b n : Nat} (hr : rowR f g b n) {p : Nat} : ∀ k, p + k ≤ n → ahN f p k = ahN g (b + p) k
  | 0, _ => rfl
  | k + 1, h => by
    rw [ahN, ahN, ah_row hr k (by omega), hr (p + k) (by omega), Nat.add_assoc]
theorem two1 {x : Int32} (h : x = 0 ∨ x = 1) (a : Int32) : a + (if x = nI 1 then nI 1 else (-1 : Int32)) = a + nI 2 * x - nI 1 := by
  rcases h with h | h <;> rw [h]
  · rw [if_neg (by decide), show nI 2 * (0 : Int32) = 0 by decide, Int32.add_zero, Int32.sub_eq_add_neg]; rfl
  · rw [if_pos (by decide), show nI 2 * (1 : Int32) = nI 1 + nI 1 by decide, ← Int32.add_assoc, Int32.add_sub_cancel]
theorem bl_row {f g : Nat → Int32} {b n : Nat} (hr : rowR f g b n) (hb : bitR f n) : ∀ i, i ≤ n → olF f i = blG g b i
  | 0, _ => rfl
  | i + 1, h => by
    rw [olF, blG, bl_row hr hb i (by omega), ← hr i (by omega), two1 (hb i (by omega))]
theorem lg_row {f g : Nat → Int32} {b n : Nat} (hr : rowR f g b n) : ∀ i, i ≤ n → lrF f i = lgG g b i
  | 0, _ => rfl
  | i + 1, h => by
    have ih := lg_row hr i (by omega)
    have e : (0 < i ∧ f i = f (i - 1)) = (0 < i ∧ g (b + i) = g (b + i - 1)) := by
      by_cases h0 : 0 < i
      · rw [hr i (by omega), hr (i - 1) (by omega), show b + (i - 1) = b + i - 1 by omega]
      · apply propext
        exact ⟨fun h => absurd h.1 h0, fun h => absurd h.1 h0⟩
    simp only [lrF, lgG, ih, e]
theorem xb0 {x : Int32} (h : x = 0 ∨ x = 1) : xbit x 0 = x := by rcases h with h | h <;> rw [h] <;> decide
theorem x01 {a b : Int32} (ha : a = 0 ∨ a = 1) (hb : b = 0 ∨ b = 1) : a ^^^ b = 0 ∨ a ^^^ b = 1 := by
  rcases ha with h | h <;> rcases hb with k | k <;> rw [h, k] <;> decide
theorem bI01 (b : Bool) : bI b = 0 ∨ bI b = 1 := by cases b <;> decide
theorem x3 {x y z : Int32} : x ^^^ (y ^^^ z) = x ^^^ y ^^^ z := (Int32.xor_assoc x y z).symm
theorem pt_b {w : Int64} {h : Nat → Int32} (hw : wbR w h) (x : Int64) {i : Nat} (hi : i < 64) : wdB x i ^^^ turF w = wdG x i ^^^ h 38 ^^^ h 57 ∧ (wdB x i ^^^ turF w = 0 ∨ wdB x i ^^^ turF w = 1) := by
  refine ⟨?_, ?_⟩
  · rw [wd_eq x hi, tur_h hw, x3]
  · rw [wdB_b x hi, turF_b]
    exact x01 (bI01 _) (x01 (bI01 _) (bI01 _))
theorem pt_row {f g : Nat → Int32} {n : Nat} {w : Int64} {h : Nat → Int32} {x : Int64} (hr : rowR f g 2640 n) (hb : bitR f n) (hw : wbR w h) : ∀ i, i ≤ 64 → rowR (ptF x f n w i).2 (ptG x g n h i).2 2640 (n + i) ∧ bitR (ptF x f n w i).2 (n + i) ∧ wbR (ptF x f n w i).1 (ptG x g n h i).1
  | 0, _ => ⟨hr, hb, hw⟩
  | i + 1, hi => by
    obtain ⟨h1, h2, h3⟩ := pt_row hr hb hw i (by omega) (x := x)
    obtain ⟨e1, e2⟩ := pt_b h3 x (show i < 64 by omega)
    rw [ptF, ptG]
    simp only [apF, Nat.add_zero, Nat.sub_zero, Nat.sub_self]
    rw [xb0 e2, ← e1]
    exact ⟨row_upd h1, bit_upd h2 e2, rem_h h3 e2⟩
theorem ptG_out {g : Nat → Int32} {n : Nat} {h : Nat → Int32} {x : Int64} {j : Nat} : ∀ i, j < 2640 → (ptG x g n h i).2 j = g j
  | 0, _ => rfl
  | i + 1, hj => by
    rw [ptG]
    simp only
    rw [pk_un (by omega)]
    exact ptG_out i hj
theorem tw_row {f g : Nat → Int32} {n p : Nat} {w : Int64} {h : Nat → Int32} (hr : rowR f g 2640 n) (hb : bitR f n) (hw : wbR w h) : ∀ i, p + i ≤ n → (twF f p w i).2 = (twG g (2640 + p) h i).2 ∧ wbR (twF f p w i).1 (twG g (2640 + p) h i).1
  | 0, _ => ⟨rfl, hw⟩
  | i + 1, hi => by
    obtain ⟨h1, h2⟩ := tw_row (p := p) hr hb hw i (by omega)
    have e : f (p + i) = g (2640 + p + i) := by rw [hr (p + i) (by omega), Nat.add_assoc]
    rw [twF, twG]
    refine ⟨?_, ?_⟩
    · simp only
      rw [h1, ← e, tur_h h2, x3]
    · simp only
      rw [← e]
      exact rem_h h2 (hb (p + i) (by omega))
theorem ls_row {f g : Nat → Int32} {b n j c : Nat} (hj : j + c ≤ n) (hr : rowR f g b n) : rowR (va_cpy f f (j + c) j (n - (j + c))) (lsG g (b + j) c (n - c - j)) b (n - c) := by
  intro i hi
  unfold va_cpy lsG
  by_cases h : j ≤ i
  · rw [if_pos (by omega), if_pos (by omega), hr _ (by omega)]
    congr 1
    omega
  · rw [if_neg (by omega), if_neg (by omega), hr i (by omega)]
theorem ls_bit {f : Nat → Int32} {n j c : Nat} (hj : j + c ≤ n) (hb : bitR f n) : bitR (va_cpy f f (j + c) j (n - (j + c))) (n - c) := by
  intro i hi
  unfold va_cpy
  by_cases h : j ≤ i
  · rw [if_pos (by omega)]
    exact hb _ (by omega)
  · rw [if_neg (by omega)]
    exact hb i (by omega)
theorem lsG_out {g : Nat → Int32} {b c t j : Nat} (h : j < b ∨ b + t ≤ j) : lsG g b c t j = g j := by
  unfold lsG
  rw [if_neg (by omega)]
/-! the receiver of words: marks -/
theorem on_s (v : Nat) : ∀ i, onF v (i + 1) = v % 2 + onF (v / 2) i
  | 0 => by rw [onF, onF, onF]; simp
  | i + 1 => by
    rw [onF, on_s v i, onF, Nat.pow_succ, Nat.mul_comm, ← Nat.div_div_eq_div_mul]
    omega
theorem on_mod (v : Nat) : ∀ i, onF (v % 2 ^ 16) i ≤ onF v i
  | 0 => Nat.le_refl _
  | i + 1 => by
    have ih := on_mod v i
    rw [onF, onF]
    have : v % 2 ^ 16 / 2 ^ i % 2 ≤ v / 2 ^ i % 2 := by
      rw [← Nat.toNat_testBit, ← Nat.toNat_testBit, Nat.testBit_mod_two_pow]
      cases v.testBit i
      · simp
      · rw [Bool.and_true]
        exact Bool.toNat_le _
    omega
theorem on_la (v : Nat) (good : Bool) : onF (laN v good) 16 ≤ onF v 16 + 1 := by
  have h3 : (2 * v + (if good then 0 else 1)) / 2 = v := by cases good <;> simp <;> omega
  unfold laN
  generalize 2 * v + (if good then 0 else 1) = m at h3
  have h1 : onF (m % 65536) 16 ≤ onF m 16 := on_mod m 16
  have h2 : onF m 16 = m % 2 + onF (m / 2) 15 := on_s m 15
  rw [h3] at h2
  have h4 : onF v 16 = onF v 15 + v / 2 ^ 15 % 2 := rfl
  omega
theorem and_N (a m : Nat) : nI a &&& nI m = nI (a &&& m) := by
  show (Int32.ofNat a) &&& (Int32.ofNat m) = Int32.ofNat (a &&& m)
  apply Int32.toBitVec.inj
  rw [Int32.toBitVec_and]
  show BitVec.ofNat 32 a &&& BitVec.ofNat 32 m = BitVec.ofNat 32 (a &&& m)
  apply BitVec.eq_of_toNat_eq
  rw [BitVec.toNat_and, BitVec.toNat_ofNat, BitVec.toNat_ofNat, BitVec.toNat_ofNat, Nat.and_mod_two_pow]
theorem us_N {x : Nat} (hx : x < 2 ^ 31) {k : Nat} (hk : k < 32) : us (nI x) k = nI (x / 2 ^ k) := by
  apply Int32.toBitVec.inj
  show ((nI x).toUInt32 >>> ((nI k).toUInt32 &&& Int32.toUInt32 31)).toBitVec = BitVec.ofNat 32 (x / 2 ^ k)
  apply BitVec.eq_of_toNat_eq
  rw [UInt32.toBitVec_shiftRight, BitVec.ushiftRight_eq', BitVec.toNat_ushiftRight, shu k hk]
  show (BitVec.ofNat 32 x).toNat >>> k = _
  rw [BitVec.toNat_ofNat, BitVec.toNat_ofNat, Nat.shiftRight_eq_div_pow, Nat.mod_eq_of_lt (by omega)]
  have : x / 2 ^ k ≤ x := Nat.div_le_self _ _
  rw [Nat.mod_eq_of_lt (by omega)]
def n1 (x : Nat) : Nat := x - (x / 2 ^ 1 &&& 1431655765)
def n2 (x : Nat) : Nat := (x &&& 858993459) + (x / 2 ^ 2 &&& 858993459)
def n3 (x : Nat) : Nat := (x + x / 2 ^ 4) &&& 252645135
def n4 (x : Nat) : Nat := x + x / 2 ^ 8
def n5 (x : Nat) : Nat := x + x / 2 ^ 16
theorem bc_N {v : Nat} (hv : v < 65536) : bcF (nI v) = nI (n5 (n4 (n3 (n2 (n1 v)))) &&& 63) := by
  have a1 : v / 2 ^ 1 &&& 1431655765 ≤ v / 2 ^ 1 := Nat.and_le_left
  have b1 : n1 v ≤ v := by unfold n1; omega
  have e1 : bc1 (nI v) = nI (n1 v) := by
    unfold bc1 n1
    rw [us_N (by omega) (by decide), show (1431655765 : Int32) = nI 1431655765 by decide, and_N, pk_sub (by omega)]
  have a2 : n1 v &&& 858993459 ≤ n1 v := Nat.and_le_left
  have a3 : n1 v / 2 ^ 2 &&& 858993459 ≤ n1 v / 2 ^ 2 := Nat.and_le_left
  have b2 : n2 (n1 v) ≤ 131072 := by unfold n2; omega
  have e2 : bc2 (nI (n1 v)) = nI (n2 (n1 v)) := by
    unfold bc2 n2
    rw [us_N (by omega) (by decide), show (858993459 : Int32) = nI 858993459 by decide, and_N, and_N, nI_add]
  have a4 : (n2 (n1 v) + n2 (n1 v) / 2 ^ 4) &&& 252645135 ≤ n2 (n1 v) + n2 (n1 v) / 2 ^ 4 := Nat.and_le_left
  have b3 : n3 (n2 (n1 v)) ≤ 262144 := by unfold n3; omega
  have e3 : bc3 (nI (n2 (n1 v))) = nI (n3 (n2 (n1 v))) := by
    unfold bc3 n3
    rw [us_N (by omega) (by decide), show (252645135 : Int32) = nI 252645135 by decide, nI_add, and_N]
  have b4 : n4 (n3 (n2 (n1 v))) ≤ 524288 := by unfold n4; omega
  have e4 : bc4 (nI (n3 (n2 (n1 v)))) = nI (n4 (n3 (n2 (n1 v)))) := by
    unfold bc4 n4
    rw [us_N (by omega) (by decide), nI_add]
  have e5 : bc5 (nI (n4 (n3 (n2 (n1 v))))) = nI (n5 (n4 (n3 (n2 (n1 v))))) := by
    unfold bc5 n5
    rw [us_N (by omega) (by decide), nI_add]
  unfold bcF
  rw [e1, e2, e3, e4, e5, and_N]
theorem and_sp {a b c d : Nat} (hb : b < 256) (hd : d < 256) : (256 * a + b) &&& (256 * c + d) = 256 * (a &&& c) + (b &&& d) := by
  have hbd : b &&& d < 2 ^ 8 := Nat.lt_of_le_of_lt Nat.and_le_left hb
  apply Nat.eq_of_testBit_eq
  intro i
  rw [Nat.testBit_and, show (256 : Nat) = 2 ^ 8 by decide, Nat.testBit_two_pow_mul_add a hb, Nat.testBit_two_pow_mul_add c hd, Nat.testBit_two_pow_mul_add _ hbd]
  split
  · rw [Nat.testBit_and]
  · rw [Nat.testBit_and]
theorem by1 : ∀ a, a < 256 → (a / 2 ^ 1 &&& 5592405) = (a / 2 ^ 1 &&& 1431655765) ∧ (a / 2 ^ 1 &&& 1431655765) ≤ a ∧ ((128 + a / 2) &&& 85) = (a / 2 ^ 1 &&& 1431655765) ∧ ((0 + a / 2) &&& 85) = (a / 2 ^ 1 &&& 1431655765) := by decide +kernel
theorem n1_s {a b : Nat} (ha : a < 256) (hb : b < 256) : n1 (256 * a + b) = 256 * n1 a + n1 b := by
  obtain ⟨a1, a2, _, _⟩ := by1 a ha
  obtain ⟨_, b2, b3, b4⟩ := by1 b hb
  have e : (256 * a + b) / 2 ^ 1 = 256 * (a / 2 ^ 1) + (128 * (a % 2) + b / 2) := by omega
  have e2 : ((128 * (a % 2) + b / 2) &&& 85) = (b / 2 ^ 1 &&& 1431655765) := by
    rcases (by omega : a % 2 = 0 ∨ a % 2 = 1) with h | h <;> rw [h]
    · exact b4
    · exact b3
  have e3 : ((256 * a + b) / 2 ^ 1 &&& 1431655765) = 256 * (a / 2 ^ 1 &&& 1431655765) + (b / 2 ^ 1 &&& 1431655765) := by
    rw [e, show (1431655765 : Nat) = 256 * 5592405 + 85 by decide, and_sp (by omega) (by decide), e2, a1]
  unfold n1
  rw [e3]
  omega
theorem by2 : ∀ a, a < 256 → (a &&& 3355443) = (a &&& 858993459) ∧ (a &&& 51) = (a &&& 858993459) ∧ (a / 2 ^ 2 &&& 3355443) = (a / 2 ^ 2 &&& 858993459) ∧ (∀ e, e < 4 → ((64 * e + a / 4) &&& 51) = (a / 2 ^ 2 &&& 858993459)) := by decide +kernel
theorem n2_s {a b : Nat} (ha : a < 256) (hb : b < 256) : n2 (256 * a + b) = 256 * n2 a + n2 b := by
  obtain ⟨a1, _, a3, _⟩ := by2 a ha
  obtain ⟨_, b2, _, b4⟩ := by2 b hb
  have e : (256 * a + b) / 2 ^ 2 = 256 * (a / 2 ^ 2) + (64 * (a % 4) + b / 4) := by omega
  have e3 : ((256 * a + b) / 2 ^ 2 &&& 858993459) = 256 * (a / 2 ^ 2 &&& 858993459) + (b / 2 ^ 2 &&& 858993459) := by
    rw [e, show (858993459 : Nat) = 256 * 3355443 + 51 by decide, and_sp (by omega) (by decide), b4 (a % 4) (by omega), a3]
  have e4 : ((256 * a + b) &&& 858993459) = 256 * (a &&& 858993459) + (b &&& 858993459) := by
    rw [show (858993459 : Nat) = 256 * 3355443 + 51 by decide, and_sp hb (by decide)]
    rw [show (256 * 3355443 + 51 : Nat) = 858993459 by decide, a1, b2]
  unfold n2
  rw [e3, e4]
  omega
theorem by3 : ∀ a, a < 256 → n1 a < 256 ∧ n2 (n1 a) / 16 ≤ 4 ∧ n2 (n1 a) % 16 ≤ 4 ∧ ((n2 (n1 a) + n2 (n1 a) / 2 ^ 4) &&& 986895) = onF a 8 ∧ (n2 (n1 a) + n2 (n1 a) / 16) % 16 = onF a 8 ∧ onF a 8 ≤ 8 := by decide +kernel
theorem on_sp {a b : Nat} (hb : b < 256) : onF (256 * a + b) 16 = onF b 8 + onF a 8 := by
  have h : ∀ i, i ≤ 8 → onF (256 * a + b) (8 + i) = onF (256 * a + b) 8 + onF a i := by
    intro i
    induction i with
    | zero => intro _; rfl
    | succ i ih =>
      intro hi
      show onF (256 * a + b) (8 + i) + (256 * a + b) / 2 ^ (8 + i) % 2 = onF (256 * a + b) 8 + (onF a i + a / 2 ^ i % 2)
      rw [ih (by omega), Nat.pow_add, ← Nat.div_div_eq_div_mul, show (256 * a + b) / 2 ^ 8 = a by omega]
      omega
  have h2 : ∀ i, i ≤ 8 → onF (256 * a + b) i = onF b i := by
    intro i
    induction i with
    | zero => intro _; rfl
    | succ i ih =>
      intro hi
      rw [onF, onF, ih (by omega)]
      congr 1
      have : (256 * a + b).testBit i = b.testBit i := by
        rw [show (256 : Nat) = 2 ^ 8 by decide, Nat.testBit_two_pow_mul_add a (by omega), if_pos (by omega)]
      rw [← Nat.toNat_testBit, ← Nat.toNat_testBit, this]
  rw [h 8 (Nat.le_refl _), h2 8 (Nat.le_refl _)]
theorem bc_ab {a b : Nat} (ha : a < 256) (hb : b < 256) : n5 (n4 (n3 (n2 (n1 (256 * a + b))))) &&& 63 = onF (256 * a + b) 16 := by
  obtain ⟨a1, a2, a3, a4, a5, a6⟩ := by3 a ha
  obtain ⟨b1, b2, b3, b4, b5, b6⟩ := by3 b hb
  have e3 : n3 (256 * n2 (n1 a) + n2 (n1 b)) = 256 * onF a 8 + onF b 8 := by
    have e : 256 * n2 (n1 a) + n2 (n1 b) + (256 * n2 (n1 a) + n2 (n1 b)) / 2 ^ 4 = 256 * (n2 (n1 a) + n2 (n1 a) / 2 ^ 4) + (n2 (n1 b) + 16 * (n2 (n1 a) % 16) + n2 (n1 b) / 16) := by omega
    unfold n3
    rw [e, show (252645135 : Nat) = 256 * 986895 + 15 by decide, and_sp (by omega) (by decide), a4, show (15 : Nat) = 2 ^ 4 - 1 by decide, Nat.and_two_pow_sub_one_eq_mod]
    omega
  rw [n1_s ha hb, n2_s a1 b1, e3, on_sp hb]
  have e4 : n4 (256 * onF a 8 + onF b 8) = 256 * onF a 8 + onF b 8 + onF a 8 := by unfold n4; omega
  rw [e4]
  have e5 : n5 (256 * onF a 8 + onF b 8 + onF a 8) = 256 * onF a 8 + onF b 8 + onF a 8 := by unfold n5; omega
  rw [e5, show (63 : Nat) = 2 ^ 6 - 1 by decide, Nat.and_two_pow_sub_one_eq_mod]
  omega
theorem bc_on {v : Nat} (hv : v < 65536) : bcF (nI v) = nI (onF v 16) := by
  rw [bc_N hv]
  have h := bc_ab (a := v / 256) (b := v % 256) (by omega) (by omega)
  rw [Nat.div_add_mod] at h
  rw [h]
theorem lt4_N {v : Nat} (hv : v < 65536) : lt4 (nI v) = decide (onF v 16 < 4) := by
  unfold lt4
  rw [bc_on hv]
  have h := onF_le v 16
  by_cases h4 : onF v 16 < 4
  · rw [decide_eq_true h4, decide_eq_true ((nI_ltI (by omega) (by omega)).mpr h4)]
  · rw [decide_eq_false h4, decide_eq_false (fun hh => h4 ((nI_ltI (by omega) (by omega)).mp hh))]
