/-! the law's loop -/
theorem lp_in {L i : Nat} (hL : L ≤ 2048) (hi : i ≤ 2048) (h : ¬ nI L - nI 4 < nI i) : i + 4 ≤ L := by
  by_cases h4 : 4 ≤ L
  · rw [pk_sub h4] at h
    by_cases hh : L - 4 < i
    · exact absurd (nI_lt hh (by omega)) h
    · omega
  · exfalso
    apply h
    have h0 : nI 0 ≤ nI i := nI_le (Nat.zero_le _) (by omega)
    refine Int32.lt_of_lt_of_le ?_ h0
    rcases (by omega : L = 0 ∨ L = 1 ∨ L = 2 ∨ L = 3) with h | h | h | h <;> subst h <;> decide
set_option maxHeartbeats 4000000 in
theorem l_loop {p : Program} {l : Launch} {e : Env} {s : State} {m : MethodId} {below : List Frame} {meth : Method} {c : Code} {E : xE} {A : Nat → Prop} {k n : Nat} {Q : State → Prop} {b L : Nat} {xs : Nat → Int32} (hT : xNoTr l) (hB : xB p s m #[Value.ref b] meth c E A "LineCoderLaw" code 7 (some .boolean) "law" []) (hX : va_X b L xs s s.heap) (hbl : b < s.heap.size) (hbA : ¬ A b) (hL : L ≤ 2048) {d : lAd} {S0 : lSt} (I0 : lInv S0) (hk0 : k + 512 ≤ 1057) (hn0 : n + 3072 ≤ 21078)
    (h9 : ∀ (S : lSt) (i k' n' : Nat), k' ≤ 1057 → n' ≤ 21078 → xW p l e room_1 s m #[Value.ref b] below meth c 7 E A A k' n' Q (wLS E d S) 889 (lLv b d i) []) : xW p l e room_1 s m #[Value.ref b] below meth c 7 E A A k n Q (wLS E d S0) 23 (lLv b d 0) [] := by
  refine x_loopK (fun a : lSt × Nat => lInv a.1 ∧ a.2 % 4 = 0 ∧ a.2 ≤ 2048) (fun a => 2052 - a.2) (fun a => k + a.2 / 4) (fun a => n + 6 * (a.2 / 4)) (fun a => wLS E d a.1) (fun a => lLv b d a.2) (S0, 0) ⟨I0, rfl, Nat.zero_le _⟩ (by show k = k + 0 / 4; omega) (by show n = n + 6 * (0 / 4); omega) rfl rfl ?_
  rintro ⟨S, i⟩ ⟨I, h4, h48⟩ again
  have I : lInv S := I
  have h4 : i % 4 = 0 := h4
  have h48 : i ≤ 2048 := h48
  show xW p l e room_1 s m #[Value.ref b] below meth c 7 E A A (k + i / 4) (n + 6 * (i / 4)) Q (wLS E d S) 23 (lLv b d i) []
  refine x_iload 25 hB d_law_23 rfl rfl ?_
  refine x_aload_n 26 hB d_law_25 rfl rfl ?_
  refine x_slen 27 hB hX hbl hbA d_law_26 rfl ?_
  refine x_iconst (v := nI 4) 28 hB d_law_27 rfl (by decide) ?_
  refine x_isub 29 hB d_law_28 rfl ?_
  refine x_icmp_gt 889 32 hB d_law_29 (by decide) rfl (fun _ => ?_) (fun hc => ?_)
  · exact h9 S i _ _ (by omega) (by omega)
  · have hi : i + 4 ≤ L := lp_in hL h48 hc
    have hk1 : k + i / 4 + 1 ≤ 1057 := by omega
    have hn1 : n + 6 * (i / 4) + 6 ≤ 21078 := by omega
    have K : ∀ S', lInv S' → xW p l e room_1 s m #[Value.ref b] below meth c 7 E A A (k + i / 4 + 1) (n + 6 * (i / 4) + 6) Q (wLS E d S') 883 (lLv b d i) [] := by
      intro S' I'
      refine x_iinc 886 hB d_law_883 rfl 4 rfl (v := nI (i + 4)) (nI_add i 4) (by decide) (lv' := [(4, .int (nI (i + 4))), (0, .ref b), (1, .ref d.hx), (2, .ref d.hm), (3, .ref d.ho)]) rfl ?_
      refine x_goto 23 hB d_law_886 (by decide) ?_
      refine x_lv (lv' := lLv b d (i + 4)) [1, 2, 3, 4, 0] rfl ?_
      have h := again (S', i + 4) ⟨I', (show (i + 4) % 4 = 0 by omega), (show i + 4 ≤ 2048 by omega)⟩ (show 2052 - (i + 4) < 2052 - i by omega)
      exact x_more (show k + i / 4 + 1 ≤ k + (i + 4) / 4 by omega) (show n + 6 * (i / 4) + 6 ≤ n + 6 * ((i + 4) / 4) by omega) h
    refine x_aload_n 33 hB d_law_32 rfl rfl ?_
    refine x_iload 35 hB d_law_33 rfl rfl ?_
    refine x_sld 36 hB hX hbl hbA (show i < L by omega) (by omega) d_law_35 rfl ?_
    refine x_bipush (v := nI 15) 38 hB d_law_36 rfl (by decide) ?_
    refine x_iand 39 hB d_law_38 rfl ?_
    rw [pk_and (xs i) (m := nI 15) 4 (by decide)]
    have hj : (xs i).toBitVec.toNat % 2 ^ 4 < 16 := Nat.mod_lt _ (by decide)
    generalize (xs i).toBitVec.toNat % 2 ^ 4 = j at hj
    rcases (by omega : j = 0 ∨ j = 1 ∨ j = 2 ∨ j = 3 ∨ j = 4 ∨ j = 5 ∨ j = 6 ∨ j = 7 ∨ j = 8 ∨ j = 9 ∨ j = 10 ∨ j = 11 ∨ j = 12 ∨ j = 13 ∨ j = 14 ∨ j = 15) with h | h | h | h | h | h | h | h | h | h | h | h | h | h | h | h <;> subst h
    · refine x_tabIn 108 hB d_law_39 (by decide) (by decide) (off := 69) (by decide) (by decide) ?_
      exact lr_0 hT hB hX hbl hbA hL hi hk1 hn1 I K
    · refine x_tabIn 192 hB d_law_39 (by decide) (by decide) (off := 153) (by decide) (by decide) ?_
      exact lr_1 hT hB hX hbl hbA hL hi hk1 hn1 I K
    · refine x_tabIn 248 hB d_law_39 (by decide) (by decide) (off := 209) (by decide) (by decide) ?_
      exact lr_2 hT hB hX hbl hbA hL hi hk1 hn1 I K
    · refine x_tabIn 304 hB d_law_39 (by decide) (by decide) (off := 265) (by decide) (by decide) ?_
      exact lr_3 hT hB hX hbl hbA hL hi hk1 hn1 I K
    · refine x_tabIn 317 hB d_law_39 (by decide) (by decide) (off := 278) (by decide) (by decide) ?_
      exact lr_4 hT hB hX hbl hbA hL hi hk1 hn1 I K
    · refine x_tabIn 433 hB d_law_39 (by decide) (by decide) (off := 394) (by decide) (by decide) ?_
      exact lr_5 hT hB hX hbl hbA hL hi hk1 hn1 I K
    · refine x_tabIn 446 hB d_law_39 (by decide) (by decide) (off := 407) (by decide) (by decide) ?_
      exact lr_6 hT hB hX hbl hbA hL hi hk1 hn1 I K
    · refine x_tabIn 460 hB d_law_39 (by decide) (by decide) (off := 421) (by decide) (by decide) ?_
      exact lr_7 hT hB hX hbl hbA hL hi hk1 hn1 I K
    · refine x_tabIn 540 hB d_law_39 (by decide) (by decide) (off := 501) (by decide) (by decide) ?_
      exact lr_8 hT hB hX hbl hbA hL hi hk1 hn1 I K
    · refine x_tabIn 615 hB d_law_39 (by decide) (by decide) (off := 576) (by decide) (by decide) ?_
      exact lr_9 hT hB hX hbl hbA hL hi hk1 hn1 I K
    · refine x_tabIn 695 hB d_law_39 (by decide) (by decide) (off := 656) (by decide) (by decide) ?_
      exact lr_10 hT hB hX hbl hbA hL hi hk1 hn1 I K
    · refine x_tabIn 763 hB d_law_39 (by decide) (by decide) (off := 724) (by decide) (by decide) ?_
      exact lr_11 hT hB hX hbl hbA hL hi hk1 hn1 I K
    · refine x_tabIn 831 hB d_law_39 (by decide) (by decide) (off := 792) (by decide) (by decide) ?_
      exact lr_12 hT hB hX hbl hbA hL hi hk1 hn1 I K
    · refine x_tabIn 872 hB d_law_39 (by decide) (by decide) (off := 833) (by decide) (by decide) ?_
      exact lr_13 hT hB hX hbl hbA hL hi hk1 hn1 I K
    · exact x_tabOut 883 hB d_law_39 (Or.inr (by decide)) (by decide) (x_more (by omega) (by omega) (K S I))
    · exact x_tabOut 883 hB d_law_39 (Or.inr (by decide)) (by decide) (x_more (by omega) (by omega) (K S I))
