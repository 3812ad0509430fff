abbrev rm_JM_minF : Room := { frames := 0, cells := 0, slots := 0, locals := 0 }
set_option maxHeartbeats 4000000 in
set_option maxRecDepth 100000 in
theorem c_JM_minF (l : Launch) (E : xE) (a b : Int32) : xCp l E y_JM_min (.code y_JM_min prog_16_method_69_code 2 (some .int)) rm_JM_minF [.int (a), .int (b)] [] (.inl (some (.int (mnF a b)))) := by
  refine x_ofP (own := "java/lang/Math") (mn := "min") (lv := [(0, .int (a)), (1, .int (b))]) (by decide +kernel) rfl rfl (Nat.le_of_ble_eq_true rfl) rfl ?_
  intro p_ e_ s_ m_ ar_ be_ me_ c_ hB
  refine x_iload_n 1 hB d_JM_min_0 rfl rfl ?_
  refine x_iload_n 2 hB d_JM_min_1 rfl rfl ?_
  refine x_icmp_gt 9 5 hB d_JM_min_2 (by decide) rfl (fun h2 => ?_) (fun h2 => ?_)
  · skip
    refine x_iload_n 10 hB d_JM_min_9 rfl rfl ?_
    exact x_iretP hB (sVe (by rw [mnF, if_pos h2])) (by decide) (by decide) d_JM_min_10
  · skip
    refine x_iload_n 6 hB d_JM_min_5 rfl rfl ?_
    refine x_goto 10 hB d_JM_min_6 (by decide) ?_
    exact x_iretP hB (sVe (by rw [mnF, if_neg h2])) (by decide) (by decide) d_JM_min_10
abbrev rm_L_lr : Room := { frames := 1, cells := 0, slots := 0, locals := 21 }
set_option maxHeartbeats 4000000 in
set_option maxRecDepth 100000 in
theorem c_L_lr (l : Launch) (E : xE) (h0 a0 n p : Nat) (f : Nat → Int32) (hn : n ≤ 2640) : xCp l E y_L_longestRun (.code y_L_longestRun prog_2_method_15_code 4 (some .int)) rm_L_lr [.ref h0] [(h0, .inr (0, [.ref a0, .int (nI (n)), .int (nI (p))])), (a0, .inl (E.2 0, 2640, .inl (f)))] (.inl (some (.int (nI ((lrF f n).2))))) := by
  refine x_ofP (own := "LineCoder$Line") (mn := "longestRun") (lv := [(0, .ref h0)]) (plainFor_of_name (by decide)) rfl rfl (Nat.le_of_ble_eq_true rfl) rfl ?_
  intro p_ e_ s_ m_ ar_ be_ me_ c_ hB
  refine x_iconst (v := nI 0) 1 hB d_L_longestRun_0 rfl (by decide) ?_
  refine x_istore_n 2 hB d_L_longestRun_1 rfl (by decide) (lv' := [(1, .int (nI 0)), (0, .ref h0)]) rfl ?_
  refine x_iconst (v := nI 0) 3 hB d_L_longestRun_2 rfl (by decide) ?_
  refine x_istore_n 4 hB d_L_longestRun_3 rfl (by decide) (lv' := [(2, .int (nI 0)), (1, .int (nI 0)), (0, .ref h0)]) rfl ?_
  refine x_iconst (v := nI 0) 5 hB d_L_longestRun_4 rfl (by decide) ?_
  refine x_istore_n 6 hB d_L_longestRun_5 rfl (by decide) (lv' := [(3, .int (nI 0)), (2, .int (nI 0)), (1, .int (nI 0)), (0, .ref h0)]) rfl ?_
  refine x_lv (lv' := [(0, .ref h0), (1, .int (nI 0)), (2, .int (nI 0)), (3, .int (nI 0))]) [3, 2, 1, 0] rfl ?_
  refine x_loop (fun i : Nat => i ≤ n) (fun i : Nat => n - i) (fun i : Nat => [(h0, .inr (0, [.ref a0, .int (nI (n)), .int (nI (p))])), (a0, .inl (E.2 0, 2640, .inl (f)))]) (fun i : Nat => [(0, .ref h0), (1, .int (nI ((lrF f i).2))), (2, .int (nI ((lrF f i).1))), (3, .int (nI (i)))]) (fun i : Nat => []) 0 (Nat.zero_le _) rfl rfl rfl (fun i hI6 IH6 => ?_)
  have hle := lrF_le f i
  have hle1 := lrF_le f (i + 1)
  refine x_iload_n 7 hB d_L_longestRun_6 rfl rfl ?_
  refine x_aload_n 8 hB d_L_longestRun_7 rfl rfl ?_
  refine x_get 11 hB 0 fg_L_15_0 rfl rfl d_L_longestRun_8 rfl ?_
  refine x_icmp_ge 55 14 hB d_L_longestRun_11 (by decide) rfl (fun h11 => ?_) (fun h11 => ?_)
  · skip
    have hi : n = i := by have := (nI_leI (by omega) (by omega)).mp h11; omega
    subst hi
    refine x_iload_n 56 hB d_L_longestRun_55 rfl rfl ?_
    exact x_iretP hB (rfl) (by decide) (by decide) d_L_longestRun_56
  · skip
    have hi : i < n := Nat.lt_of_not_le (fun h => h11 (nI_le h (by omega)))
    refine x_join 42 (fun _u : Unit => True) (fun _u : Unit => [(h0, .inr (0, [.ref a0, .int (nI (n)), .int (nI (p))])), (a0, .inl (E.2 0, 2640, .inl (f)))]) (fun _u : Unit => [(0, .ref h0), (1, .int (nI ((lrF f i).2))), (2, .int (nI ((lrF f i).1))), (3, .int (nI (i)))]) (fun _u : Unit => [.int (nI ((lrF f (i + 1)).1))]) (fun _u hJ42 => ?_) (fun J42 => ?_)
    · skip
      refine x_istore_n 43 hB d_L_longestRun_42 rfl (by decide) (lv' := [(2, .int (nI ((lrF f (i + 1)).1))), (0, .ref h0), (1, .int (nI ((lrF f i).2))), (3, .int (nI (i)))]) rfl ?_
      refine x_iload_n 44 hB d_L_longestRun_43 rfl rfl ?_
      refine x_iload_n 45 hB d_L_longestRun_44 rfl rfl ?_
      refine x_callP (k' := 0) (n' := 0) (rest := []) (st' := [.int (mxF (nI ((lrF f i).2)) (nI ((lrF f (i + 1)).1)))]) 48 hB (x_pfS (av := [.int (nI ((lrF f i).2)), .int (nI ((lrF f (i + 1)).1))]) hB w_253 xHd_code w_15 w_598 w_252 nm_JM_max rfl d_L_longestRun_45) (c_JM_maxF l E (nI ((lrF f i).2)) (nI ((lrF f (i + 1)).1))) w_253 xHd_code w_15 [] rfl rfl ⟨by decide, by decide⟩ ⟨by decide, by decide⟩ rfl rfl (Nat.le_of_ble_eq_true rfl) d_L_longestRun_45 rfl rfl ?_
      refine x_top (v' := .int (nI ((lrF f (i + 1)).2))) (congrArg Value.int (mxF_N (by omega) (by omega))) ?_
      refine x_istore_n 49 hB d_L_longestRun_48 rfl (by decide) (lv' := [(1, .int (nI ((lrF f (i + 1)).2))), (2, .int (nI ((lrF f (i + 1)).1))), (0, .ref h0), (3, .int (nI (i)))]) rfl ?_
      refine x_iinc (v := nI (i + 1)) 52 hB d_L_longestRun_49 rfl 3 rfl ((nI_succ i).symm) (by decide) (lv' := [(3, .int (nI (i + 1))), (1, .int (nI ((lrF f (i + 1)).2))), (2, .int (nI ((lrF f (i + 1)).1))), (0, .ref h0)]) rfl ?_
      refine x_goto 6 hB d_L_longestRun_52 (by decide) ?_
      refine x_lv (lv' := [(0, .ref h0), (1, .int (nI ((lrF f (i + 1)).2))), (2, .int (nI ((lrF f (i + 1)).1))), (3, .int (nI (i + 1)))]) [3, 1, 2, 0] rfl ?_
      exact IH6 (i + 1) hi (by omega)
    refine x_iload_n 15 hB d_L_longestRun_14 rfl rfl ?_
    refine x_if_le 41 18 hB d_L_longestRun_15 (by decide) rfl (fun h15 => ?_) (fun h15 => ?_)
    · skip
      have k15 : i = 0 := by have := (nI_leI (a := i) (b := 0) (by omega) (by omega)).mp h15; omega
      refine x_iconst (v := nI 1) 42 hB d_L_longestRun_41 rfl (by decide) ?_
      refine x_top (v' := .int (nI ((lrF f (i + 1)).1))) (congrArg Value.int (by show nI 1 = nI (if 0 < i ∧ f i = f (i - 1) then _ else _); rw [if_neg (by omega)])) ?_
      exact J42 () trivial
    · skip
      have k15 : 0 < i := Nat.pos_of_ne_zero (fun h => h15 (by rw [h]; decide))
      refine x_aload_n 19 hB d_L_longestRun_18 rfl rfl ?_
      refine x_get 22 hB 0 fg_L_11_0 rfl rfl d_L_longestRun_19 rfl ?_
      refine x_iload_n 23 hB d_L_longestRun_22 rfl rfl ?_
      refine x_bald 24 hB 1 rfl (by omega) (by decide) d_L_longestRun_23 rfl ?_
      refine x_aload_n 25 hB d_L_longestRun_24 rfl rfl ?_
      refine x_get 28 hB 0 fg_L_11_0 rfl rfl d_L_longestRun_25 rfl ?_
      refine x_iload_n 29 hB d_L_longestRun_28 rfl rfl ?_
      refine x_iconst (v := nI 1) 30 hB d_L_longestRun_29 rfl (by decide) ?_
      refine x_isub 31 hB d_L_longestRun_30 rfl ?_
      refine x_top (v' := .int (nI (i - 1))) (congrArg Value.int (pk_sub (by omega))) ?_
      refine x_bald 32 hB 1 rfl (by omega) (by decide) d_L_longestRun_31 rfl ?_
      refine x_icmp_ne 41 35 hB d_L_longestRun_32 (by decide) rfl (fun h32 => ?_) (fun h32 => ?_)
      · skip
        refine x_iconst (v := nI 1) 42 hB d_L_longestRun_41 rfl (by decide) ?_
        refine x_top (v' := .int (nI ((lrF f (i + 1)).1))) (congrArg Value.int (by show nI 1 = nI (if 0 < i ∧ f i = f (i - 1) then _ else _); rw [if_neg (fun h => h32 h.2)])) ?_
        exact J42 () trivial
      · skip
        refine x_iload_n 36 hB d_L_longestRun_35 rfl rfl ?_
        refine x_iconst (v := nI 1) 37 hB d_L_longestRun_36 rfl (by decide) ?_
        refine x_iadd 38 hB d_L_longestRun_37 rfl ?_
        refine x_top (v' := .int (nI ((lrF f (i + 1)).1))) (congrArg Value.int ((nI_add _ 1).trans (by show _ = nI (if 0 < i ∧ f i = f (i - 1) then _ else _); rw [if_pos ⟨k15, h32⟩]))) ?_
        refine x_goto 42 hB d_L_longestRun_38 (by decide) ?_
        exact J42 () trivial
abbrev rm_L_remove_out : Room := { frames := 1, cells := 0, slots := 0, locals := 21 }
set_option maxHeartbeats 4000000 in
set_option maxRecDepth 100000 in
theorem c_L_remove_out (l : Launch) (E : xE) (h0 a0 n p : Nat) (f : Nat → Int32) (k z : Int32) (hk : k < 0 ∨ nI n ≤ k) : xCp l E y_L_remove (.code y_L_remove prog_2_method_11_code 5 (some .int)) rm_L_remove_out [.ref h0, .int (k), .int (z)] [(h0, .inr (0, [.ref a0, .int (nI (n)), .int (nI (p))])), (a0, .inl (E.2 0, 2640, .inl (f)))] (.inl (some (.int (nI 0)))) := by
  refine x_ofP (own := "LineCoder$Line") (mn := "remove") (lv := [(0, .ref h0), (1, .int (k)), (2, .int (z))]) (plainFor_of_name (by decide)) rfl rfl (Nat.le_of_ble_eq_true rfl) rfl ?_
  intro p_ e_ s_ m_ ar_ be_ me_ c_ hB
  refine x_aload_n 1 hB d_L_remove_0 rfl rfl ?_
  refine x_iload_n 2 hB d_L_remove_1 rfl rfl ?_
  refine x_callP (k' := 0) (n' := 0) (rest := []) (st' := [.int (nI 0)]) 5 hB (x_pfV (av := [.int (k)]) (q0 := 0) hB w_177 xHd_code w_174 w_175 w_176 rfl rfl nm_L_has rfl d_L_remove_2) (c_L_has_out l E h0 a0 n p k hk) w_177 xHd_code w_2 [0] rfl rfl ⟨by decide, by decide⟩ ⟨by decide, by decide⟩ rfl rfl (Nat.le_of_ble_eq_true rfl) d_L_remove_2 rfl rfl ?_
  refine x_if_eq 12 8 hB d_L_remove_5 (by decide) rfl (fun _ => ?_) (fun hc => absurd (by decide) hc)
  refine x_iconst (v := nI 0) 13 hB d_L_remove_12 rfl (by decide) ?_
  exact x_iretP hB (rfl) (by decide) (by decide) d_L_remove_13
abbrev rm_L_remove_z : Room := { frames := 1, cells := 0, slots := 0, locals := 21 }
set_option maxHeartbeats 4000000 in
set_option maxRecDepth 100000 in
theorem c_L_remove_z (l : Launch) (E : xE) (h0 a0 n p : Nat) (f : Nat → Int32) (j : Nat) (hj : j < n) (hn : n ≤ 2640) : xCp l E y_L_remove (.code y_L_remove prog_2_method_11_code 5 (some .int)) rm_L_remove_z [.ref h0, .int (nI (j)), .int (nI (0))] [(h0, .inr (0, [.ref a0, .int (nI (n)), .int (nI (p))])), (a0, .inl (E.2 0, 2640, .inl (f)))] (.inl (some (.int (nI 0)))) := by
  refine x_ofP (own := "LineCoder$Line") (mn := "remove") (lv := [(0, .ref h0), (1, .int (nI (j))), (2, .int (nI (0)))]) (plainFor_of_name (by decide)) rfl rfl (Nat.le_of_ble_eq_true rfl) rfl ?_
  intro p_ e_ s_ m_ ar_ be_ me_ c_ hB
  refine x_aload_n 1 hB d_L_remove_0 rfl rfl ?_
  refine x_iload_n 2 hB d_L_remove_1 rfl rfl ?_
  refine x_callP (k' := 0) (n' := 0) (rest := []) (st' := [.int (nI 1)]) 5 hB (x_pfV (av := [.int (nI (j))]) (q0 := 0) hB w_177 xHd_code w_174 w_175 w_176 rfl rfl nm_L_has rfl d_L_remove_2) (c_L_has_in l E h0 a0 n p j hj hn) w_177 xHd_code w_2 [0] rfl rfl ⟨by decide, by decide⟩ ⟨by decide, by decide⟩ rfl rfl (Nat.le_of_ble_eq_true rfl) d_L_remove_2 rfl rfl ?_
  refine x_if_eq 12 8 hB d_L_remove_5 (by decide) rfl (fun hc => absurd hc (by decide)) (fun _ => ?_)
  refine x_iload_n 9 hB d_L_remove_8 rfl rfl ?_
  refine x_if_gt 14 12 hB d_L_remove_9 (by decide) rfl (fun hc => absurd hc (by decide)) (fun _ => ?_)
  refine x_iconst (v := nI 0) 13 hB d_L_remove_12 rfl (by decide) ?_
  exact x_iretP hB (rfl) (by decide) (by decide) d_L_remove_13
abbrev rm_L_remove : Room := { frames := 1, cells := 0, slots := 0, locals := 60 }
set_option maxHeartbeats 4000000 in
set_option maxRecDepth 100000 in
theorem c_L_remove (l : Launch) (E : xE) (h0 a0 n p : Nat) (f : Nat → Int32) (j q : Nat) (hj : j < n) (hn : n ≤ 2640) (hq : 0 < q) (hq2 : q < 2147483648) (hb : ∀ i, i < n → f i = 0 ∨ f i = 1) : xC l E y_L_remove (.code y_L_remove prog_2_method_11_code 5 (some .int)) rm_L_remove [.ref h0, .int (nI (j)), .int (nI (q))] [(h0, .inr (0, [.ref a0, .int (nI (n)), .int (nI (p))])), (a0, .inl (E.2 0, 2640, .inl (f)))] (xRet (some (.int (nI (min q (n - j))))) [(h0, .inr (0, [.ref a0, .int (nI (n - min q (n - j))), .int (nI (p))])), (a0, .inl (E.2 0, 2640, .inl (va_cpy f f (j + min q (n - j)) j (n - (j + min q (n - j))))))]) := by
  refine x_of' (own := "LineCoder$Line") (mn := "remove") (lv := [(0, .ref h0), (1, .int (nI (j))), (2, .int (nI (q)))]) (plainFor_of_name (by decide)) rfl rfl (Nat.le_of_ble_eq_true rfl) rfl ?_
  intro p_ e_ s_ m_ ar_ be_ me_ c_ A_ hA hB
  refine x_aload_n 1 hB d_L_remove_0 rfl rfl ?_
  refine x_iload_n 2 hB d_L_remove_1 rfl rfl ?_
  refine x_callP (k' := 0) (n' := 0) (rest := []) (st' := [.int (nI 1)]) 5 hB (x_pfV (av := [.int (nI (j))]) (q0 := 0) hB w_177 xHd_code w_174 w_175 w_176 rfl rfl nm_L_has rfl d_L_remove_2) (c_L_has_in l E h0 a0 n p j hj hn) w_177 xHd_code w_2 [0] rfl rfl ⟨by decide, by decide⟩ ⟨by decide, by decide⟩ rfl rfl (Nat.le_of_ble_eq_true rfl) d_L_remove_2 rfl rfl ?_
  refine x_if_eq 12 8 hB d_L_remove_5 (by decide) rfl (fun hc => absurd hc (by decide)) (fun _ => ?_)
  refine x_iload_n 9 hB d_L_remove_8 rfl rfl ?_
  refine x_if_gt 14 12 hB d_L_remove_9 (by decide) rfl (fun _ => ?_) (fun hc => absurd (nI_lt (a := 0) hq hq2) hc)
  refine x_iload_n 15 hB d_L_remove_14 rfl rfl ?_
  refine x_aload_n 16 hB d_L_remove_15 rfl rfl ?_
  refine x_get 19 hB 0 fg_L_15_0 rfl rfl d_L_remove_16 rfl ?_
  refine x_iload_n 20 hB d_L_remove_19 rfl rfl ?_
  refine x_isub 21 hB d_L_remove_20 rfl ?_
  refine x_top (v' := .int (nI (n - j))) (congrArg Value.int (pk_sub (by omega))) ?_
  refine x_callP (k' := 0) (n' := 0) (rest := []) (st' := [.int (mnF (nI q) (nI (n - j)))]) 24 hB (x_pfS (av := [.int (nI (q)), .int (nI (n - j))]) hB w_191 xHd_code w_15 w_189 w_190 nm_JM_min rfl d_L_remove_21) (c_JM_minF l E (nI q) (nI (n - j))) w_191 xHd_code w_15 [] rfl rfl ⟨by decide, by decide⟩ ⟨by decide, by decide⟩ rfl rfl (Nat.le_of_ble_eq_true rfl) d_L_remove_21 rfl rfl ?_
  refine x_top (v' := .int (nI (min q (n - j)))) (congrArg Value.int (mnF_N (by omega) (by omega))) ?_
  have hg : min q (n - j) ≤ n - j := Nat.min_le_right _ _
  refine x_istore_n 25 hB d_L_remove_24 rfl (by decide) (lv' := [(3, .int (nI (min q (n - j)))), (0, .ref h0), (1, .int (nI (j))), (2, .int (nI (q)))]) rfl ?_
  refine x_iload_n 26 hB d_L_remove_25 rfl rfl ?_
  refine x_iload_n 27 hB d_L_remove_26 rfl rfl ?_
  refine x_iadd 28 hB d_L_remove_27 rfl ?_
  refine x_top (v' := .int (nI (j + min q (n - j)))) (congrArg Value.int (nI_add _ _)) ?_
  refine x_istore 30 hB d_L_remove_28 rfl (by decide) (lv' := [(4, .int (nI (j + min q (n - j)))), (3, .int (nI (min q (n - j)))), (0, .ref h0), (1, .int (nI (j))), (2, .int (nI (q)))]) rfl ?_
  refine x_aload_n 31 hB d_L_remove_30 rfl rfl ?_
  refine x_get 34 hB 0 fg_L_11_0 rfl rfl d_L_remove_31 rfl ?_
  refine x_iload 36 hB d_L_remove_34 rfl rfl ?_
  refine x_aload_n 37 hB d_L_remove_36 rfl rfl ?_
  refine x_get 40 hB 0 fg_L_11_0 rfl rfl d_L_remove_37 rfl ?_
  refine x_iload_n 41 hB d_L_remove_40 rfl rfl ?_
  refine x_aload_n 42 hB d_L_remove_41 rfl rfl ?_
  refine x_get 45 hB 0 fg_L_15_0 rfl rfl d_L_remove_42 rfl ?_
  refine x_iload 47 hB d_L_remove_45 rfl rfl ?_
  refine x_isub 48 hB d_L_remove_47 rfl ?_
  refine x_top (v' := .int (nI (n - (j + min q (n - j))))) (congrArg Value.int (pk_sub (by omega))) ?_
  refine x_copyB 51 hB 1 (ws' := [(h0, .inr (0, [.ref a0, .int (nI (n)), .int (nI (p))])), (a0, .inl (E.2 0, 2640, .inl (va_cpy f f (j + min q (n - j)) j (n - (j + min q (n - j))))))]) w_540 w_541 w_17 rfl (by decide) (by omega) (by omega) (fun i hi => hb _ (by omega)) rfl d_L_remove_48 rfl (by decide) (Nat.le_of_ble_eq_true rfl) ?_
  refine x_aload_n 52 hB d_L_remove_51 rfl rfl ?_
  refine x_dup 53 hB d_L_remove_52 rfl rfl ?_
  refine x_get 56 hB 0 fg_L_15_0 rfl rfl d_L_remove_53 rfl ?_
  refine x_iload_n 57 hB d_L_remove_56 rfl rfl ?_
  refine x_isub 58 hB d_L_remove_57 rfl ?_
  refine x_top (v' := .int (nI (n - min q (n - j)))) (congrArg Value.int (pk_sub (by omega))) ?_
  refine x_put 61 hB 0 (ws' := [(h0, .inr (0, [.ref a0, .int (nI (n - min q (n - j))), .int (nI (p))])), (a0, .inl (E.2 0, 2640, .inl (va_cpy f f (j + min q (n - j)) j (n - (j + min q (n - j))))))]) fp_L_15_0 rfl (rfl) (rfl) (Nat.le_of_ble_eq_true rfl) rfl d_L_remove_58 rfl ?_
  refine x_iload_n 62 hB d_L_remove_61 rfl rfl ?_
  exact x_iret hB (w' := [(h0, .inr (0, [.ref a0, .int (nI (n - min q (n - j))), .int (nI (p))])), (a0, .inl (E.2 0, 2640, .inl (va_cpy f f (j + min q (n - j)) j (n - (j + min q (n - j))))))]) hA [0, 1] rfl rfl (xRet_i) (by decide) (by decide) d_L_remove_62
abbrev rm_X_rns : Room := { frames := 2, cells := 0, slots := 0, locals := 43 }
set_option maxHeartbeats 4000000 in
set_option maxRecDepth 100000 in
theorem c_X_rns (l : Launch) (E : xE) (s : Nat) (hs : s < 512) (hS : isS s = true) : xCp l E y_X_refuseNoSymbol (.code y_X_refuseNoSymbol prog_1_method_17_code 1 none) rm_X_rns [.int (nI (s))] [] (.inl none) := by
  refine x_ofP (own := "LineCoder") (mn := "refuseNoSymbol") (lv := [(0, .int (nI (s)))]) (plainFor_of_name (by decide)) rfl rfl (Nat.le_of_ble_eq_true rfl) rfl ?_
  intro p_ e_ s_ m_ ar_ be_ me_ c_ hB
  refine x_iload_n 1 hB d_X_refuseNoSymbol_0 rfl rfl ?_
  refine x_callP (k' := 0) (n' := 0) (rest := []) (st' := [.int (bI (isS s))]) 4 hB (x_pfS (av := [.int (nI (s))]) hB w_216 xHd_code w_8 w_351 w_215 nm_K_isSymbol rfl d_X_refuseNoSymbol_1) (c_K_isSymbol l E s hs) w_216 xHd_code w_8 [] rfl rfl ⟨by decide, by decide⟩ ⟨by decide, by decide⟩ rfl rfl (Nat.le_of_ble_eq_true rfl) d_X_refuseNoSymbol_1 rfl rfl ?_
  refine x_top (v' := .int (nI 1)) (congrArg Value.int (by rw [hS]; rfl)) ?_
  refine x_if_ne 17 7 hB d_X_refuseNoSymbol_4 (by decide) rfl (fun _ => ?_) (fun hc => absurd hc (by decide))
  exact x_vretP hB (rfl) (by decide) (by decide) d_X_refuseNoSymbol_17
abbrev rm_X_rns_b : Room := { frames := 6, cells := 1, slots := 6, locals := 83 }
set_option maxHeartbeats 4000000 in
set_option maxRecDepth 100000 in
theorem c_X_rns_b (l : Launch) (E : xE) (hT : xNoTr l) (s : Nat) (hs : s < 512) (hS : isS s = false) : xCp l E y_X_refuseNoSymbol (.code y_X_refuseNoSymbol prog_1_method_17_code 1 none) rm_X_rns_b [.int (nI (s))] [] (.inr "java/lang/IllegalArgumentException") := by
  refine x_ofP (own := "LineCoder") (mn := "refuseNoSymbol") (lv := [(0, .int (nI (s)))]) (plainFor_of_name (by decide)) rfl rfl (Nat.le_of_ble_eq_true rfl) rfl ?_
  intro p_ e_ s_ m_ ar_ be_ me_ c_ hB
  refine x_iload_n 1 hB d_X_refuseNoSymbol_0 rfl rfl ?_
  refine x_callP (k' := 0) (n' := 0) (rest := []) (st' := [.int (bI (isS s))]) 4 hB (x_pfS (av := [.int (nI (s))]) hB w_216 xHd_code w_8 w_351 w_215 nm_K_isSymbol rfl d_X_refuseNoSymbol_1) (c_K_isSymbol l E s hs) w_216 xHd_code w_8 [] rfl rfl ⟨by decide, by decide⟩ ⟨by decide, by decide⟩ rfl rfl (Nat.le_of_ble_eq_true rfl) d_X_refuseNoSymbol_1 rfl rfl ?_
  refine x_top (v' := .int (nI 0)) (congrArg Value.int (by rw [hS]; rfl)) ?_
  refine x_if_ne 17 7 hB d_X_refuseNoSymbol_4 (by decide) rfl (fun hc => absurd (by decide) hc) (fun _ => ?_)
  exact x_throw hT hB ["java/lang/RuntimeException", "java/lang/Exception"] w_352 w_353 w_12 w_393 tw_X_60 (by decide) (by decide) (by decide) (by decide) ⟨by decide, by decide⟩ (by decide) (by decide) (by decide) d_X_refuseNoSymbol_7 d_X_refuseNoSymbol_10 d_X_refuseNoSymbol_11 d_X_refuseNoSymbol_13 d_X_refuseNoSymbol_16
abbrev rm_X_rns_o : Room := { frames := 6, cells := 1, slots := 6, locals := 83 }
set_option maxHeartbeats 4000000 in
set_option maxRecDepth 100000 in
theorem c_X_rns_o (l : Launch) (E : xE) (hT : xNoTr l) (k : Int32) (hk : k < 0 ∨ nI 512 ≤ k) : xCp l E y_X_refuseNoSymbol (.code y_X_refuseNoSymbol prog_1_method_17_code 1 none) rm_X_rns_o [.int (k)] [] (.inr "java/lang/IllegalArgumentException") := by
  refine x_ofP (own := "LineCoder") (mn := "refuseNoSymbol") (lv := [(0, .int (k))]) (plainFor_of_name (by decide)) rfl rfl (Nat.le_of_ble_eq_true rfl) rfl ?_
  intro p_ e_ s_ m_ ar_ be_ me_ c_ hB
  refine x_iload_n 1 hB d_X_refuseNoSymbol_0 rfl rfl ?_
  refine x_callP (k' := 0) (n' := 0) (rest := []) (st' := [.int (nI 0)]) 4 hB (x_pfS (av := [.int (k)]) hB w_216 xHd_code w_8 w_351 w_215 nm_K_isSymbol rfl d_X_refuseNoSymbol_1) (c_K_isSymbol_out l E k hk) w_216 xHd_code w_8 [] rfl rfl ⟨by decide, by decide⟩ ⟨by decide, by decide⟩ rfl rfl (Nat.le_of_ble_eq_true rfl) d_X_refuseNoSymbol_1 rfl rfl ?_
  refine x_if_ne 17 7 hB d_X_refuseNoSymbol_4 (by decide) rfl (fun hc => absurd (by decide) hc) (fun _ => ?_)
  exact x_throw hT hB ["java/lang/RuntimeException", "java/lang/Exception"] w_352 w_353 w_12 w_393 tw_X_60 (by decide) (by decide) (by decide) (by decide) ⟨by decide, by decide⟩ (by decide) (by decide) (by decide) d_X_refuseNoSymbol_7 d_X_refuseNoSymbol_10 d_X_refuseNoSymbol_11 d_X_refuseNoSymbol_13 d_X_refuseNoSymbol_16
abbrev rm_X_rnr : Room := { frames := 1, cells := 0, slots := 0, locals := 21 }
set_option maxHeartbeats 4000000 in
set_option maxRecDepth 100000 in
theorem c_X_rnr (l : Launch) (E : xE) (h0 a0 n p q : Nat) (hq : n + q ≤ 2640) : xCp l E y_X_refuseNoRoom (.code y_X_refuseNoRoom prog_1_method_18_code 2 none) rm_X_rnr [.ref h0, .int (nI (q))] [(h0, .inr (0, [.ref a0, .int (nI (n)), .int (nI (p))]))] (.inl none) := by
  refine x_ofP (own := "LineCoder") (mn := "refuseNoRoom") (lv := [(0, .ref h0), (1, .int (nI (q)))]) (plainFor_of_name (by decide)) rfl rfl (Nat.le_of_ble_eq_true rfl) rfl ?_
  intro p_ e_ s_ m_ ar_ be_ me_ c_ hB
  refine x_aload_n 1 hB d_X_refuseNoRoom_0 rfl rfl ?_
  refine x_iload_n 2 hB d_X_refuseNoRoom_1 rfl rfl ?_
  refine x_callP (k' := 0) (n' := 0) (rest := []) (st' := [.int (nI 1)]) 5 hB (x_pfV (av := [.int (nI (q))]) (q0 := 0) hB w_443 xHd_code w_440 w_441 w_442 rfl rfl nm_L_hasRoom rfl d_X_refuseNoRoom_2) (c_L_hasRoom_y l E h0 a0 n p q hq) w_443 xHd_code w_2 [0] rfl rfl ⟨by decide, by decide⟩ ⟨by decide, by decide⟩ rfl rfl (Nat.le_of_ble_eq_true rfl) d_X_refuseNoRoom_2 rfl rfl ?_
  refine x_if_ne 18 8 hB d_X_refuseNoRoom_5 (by decide) rfl (fun _ => ?_) (fun hc => absurd hc (by decide))
  exact x_vretP hB (rfl) (by decide) (by decide) d_X_refuseNoRoom_18
abbrev rm_X_rnr_b : Room := { frames := 6, cells := 1, slots := 6, locals := 83 }
set_option maxHeartbeats 4000000 in
set_option maxRecDepth 100000 in
theorem c_X_rnr_b (l : Launch) (E : xE) (hT : xNoTr l) (h0 a0 n p q : Nat) (hn : n ≤ 2640) (hq : 2640 < n + q) (hq2 : q ≤ 66) : xCp l E y_X_refuseNoRoom (.code y_X_refuseNoRoom prog_1_method_18_code 2 none) rm_X_rnr_b [.ref h0, .int (nI (q))] [(h0, .inr (0, [.ref a0, .int (nI (n)), .int (nI (p))]))] (.inr "java/lang/IllegalStateException") := by
  refine x_ofP (own := "LineCoder") (mn := "refuseNoRoom") (lv := [(0, .ref h0), (1, .int (nI (q)))]) (plainFor_of_name (by decide)) rfl rfl (Nat.le_of_ble_eq_true rfl) rfl ?_
  intro p_ e_ s_ m_ ar_ be_ me_ c_ hB
  refine x_aload_n 1 hB d_X_refuseNoRoom_0 rfl rfl ?_
  refine x_iload_n 2 hB d_X_refuseNoRoom_1 rfl rfl ?_
  refine x_callP (k' := 0) (n' := 0) (rest := []) (st' := [.int (nI 0)]) 5 hB (x_pfV (av := [.int (nI (q))]) (q0 := 0) hB w_443 xHd_code w_440 w_441 w_442 rfl rfl nm_L_hasRoom rfl d_X_refuseNoRoom_2) (c_L_hasRoom_n l E h0 a0 n p q hn hq hq2) w_443 xHd_code w_2 [0] rfl rfl ⟨by decide, by decide⟩ ⟨by decide, by decide⟩ rfl rfl (Nat.le_of_ble_eq_true rfl) d_X_refuseNoRoom_2 rfl rfl ?_
  refine x_if_ne 18 8 hB d_X_refuseNoRoom_5 (by decide) rfl (fun hc => absurd (by decide) hc) (fun _ => ?_)
  exact x_throw hT hB ["java/lang/RuntimeException", "java/lang/Exception"] w_444 w_445 w_14 w_453 tw_X_181 (by decide) (by decide) (by decide) (by decide) ⟨by decide, by decide⟩ (by decide) (by decide) (by decide) d_X_refuseNoRoom_8 d_X_refuseNoRoom_11 d_X_refuseNoRoom_12 d_X_refuseNoRoom_14 d_X_refuseNoRoom_17
abbrev rm_X_lineOf_0 : Room := { frames := 0, cells := 0, slots := 0, locals := 0 }
set_option maxHeartbeats 4000000 in
set_option maxRecDepth 100000 in
theorem c_X_lineOf_0 (l : Launch) (E : xE) (hx h0 h1 ht hw hz : Nat) (sp : Bool) : xCp l E y_X_lineOf (.code y_X_lineOf prog_1_method_16_code 2 (some (.object "LineCoder$Line"))) rm_X_lineOf_0 [.ref hx, .int (nI 0)] [(hx, .inr (4, [.ref h0, .ref h1, .ref ht, .ref hw, .ref hz, .int (bI sp)]))] (.inl (some (.ref h0))) := by
  refine x_ofP (own := "LineCoder") (mn := "lineOf") (lv := [(0, .ref hx), (1, .int (nI 0))]) (plainFor_of_name (by decide)) rfl rfl (Nat.le_of_ble_eq_true rfl) rfl ?_
  intro p_ e_ s_ m_ ar_ be_ me_ c_ hB
  refine x_iload_n 1 hB d_X_lineOf_0 rfl rfl ?_
  refine x_if_eq 19 4 hB d_X_lineOf_1 (by decide) rfl (fun _ => ?_) (fun hc => absurd (by decide) hc)
  refine x_iload_n 20 hB d_X_lineOf_19 rfl rfl ?_
  refine x_if_ne 30 23 hB d_X_lineOf_20 (by decide) rfl (fun hc => absurd (by decide) hc) (fun _ => ?_)
  refine x_aload_n 24 hB d_X_lineOf_23 rfl rfl ?_
  refine x_get 27 hB 0 fg_X_10_4 rfl rfl d_X_lineOf_24 rfl ?_
  refine x_goto 34 hB d_X_lineOf_27 (by decide) ?_
  exact x_aretP hB (rfl) (by decide) (by decide) d_X_lineOf_34
abbrev rm_X_lineOf_1 : Room := { frames := 0, cells := 0, slots := 0, locals := 0 }
set_option maxHeartbeats 4000000 in
set_option maxRecDepth 100000 in
theorem c_X_lineOf_1 (l : Launch) (E : xE) (hx h0 h1 ht hw hz : Nat) (sp : Bool) : xCp l E y_X_lineOf (.code y_X_lineOf prog_1_method_16_code 2 (some (.object "LineCoder$Line"))) rm_X_lineOf_1 [.ref hx, .int (nI 1)] [(hx, .inr (4, [.ref h0, .ref h1, .ref ht, .ref hw, .ref hz, .int (bI sp)]))] (.inl (some (.ref h1))) := by
  refine x_ofP (own := "LineCoder") (mn := "lineOf") (lv := [(0, .ref hx), (1, .int (nI 1))]) (plainFor_of_name (by decide)) rfl rfl (Nat.le_of_ble_eq_true rfl) rfl ?_
  intro p_ e_ s_ m_ ar_ be_ me_ c_ hB
  refine x_iload_n 1 hB d_X_lineOf_0 rfl rfl ?_
  refine x_if_eq 19 4 hB d_X_lineOf_1 (by decide) rfl (fun hc => absurd hc (by decide)) (fun _ => ?_)
  refine x_iload_n 5 hB d_X_lineOf_4 rfl rfl ?_
  refine x_iconst (v := nI 1) 6 hB d_X_lineOf_5 rfl (by decide) ?_
  refine x_icmp_eq 19 9 hB d_X_lineOf_6 (by decide) rfl (fun _ => ?_) (fun hc => absurd (by decide) hc)
  refine x_iload_n 20 hB d_X_lineOf_19 rfl rfl ?_
  refine x_if_ne 30 23 hB d_X_lineOf_20 (by decide) rfl (fun _ => ?_) (fun hc => absurd hc (by decide))
  refine x_aload_n 31 hB d_X_lineOf_30 rfl rfl ?_
  refine x_get 34 hB 0 fg_X_16_4 rfl rfl d_X_lineOf_31 rfl ?_
  exact x_aretP hB (rfl) (by decide) (by decide) d_X_lineOf_34
abbrev rm_X_lineOf_b : Room := { frames := 6, cells := 1, slots := 6, locals := 83 }
set_option maxHeartbeats 4000000 in
set_option maxRecDepth 100000 in
theorem c_X_lineOf_b (l : Launch) (E : xE) (hT : xNoTr l) (hx h0 h1 ht hw hz : Nat) (sp : Bool) (k : Int32) (hk0 : ¬ k = 0) (hk1 : ¬ k = 1) : xCp l E y_X_lineOf (.code y_X_lineOf prog_1_method_16_code 2 (some (.object "LineCoder$Line"))) rm_X_lineOf_b [.ref hx, .int (k)] [(hx, .inr (4, [.ref h0, .ref h1, .ref ht, .ref hw, .ref hz, .int (bI sp)]))] (.inr "java/lang/IllegalArgumentException") := by
  refine x_ofP (own := "LineCoder") (mn := "lineOf") (lv := [(0, .ref hx), (1, .int (k))]) (plainFor_of_name (by decide)) rfl rfl (Nat.le_of_ble_eq_true rfl) rfl ?_
  intro p_ e_ s_ m_ ar_ be_ me_ c_ hB
  refine x_iload_n 1 hB d_X_lineOf_0 rfl rfl ?_
  refine x_if_eq 19 4 hB d_X_lineOf_1 (by decide) rfl (fun hc => absurd hc (hk0)) (fun _ => ?_)
  refine x_iload_n 5 hB d_X_lineOf_4 rfl rfl ?_
  refine x_iconst (v := nI 1) 6 hB d_X_lineOf_5 rfl (by decide) ?_
  refine x_icmp_eq 19 9 hB d_X_lineOf_6 (by decide) rfl (fun hc => absurd hc (hk1)) (fun _ => ?_)
  exact x_throw hT hB ["java/lang/RuntimeException", "java/lang/Exception"] w_352 w_353 w_12 w_491 tw_X_60 (by decide) (by decide) (by decide) (by decide) ⟨by decide, by decide⟩ (by decide) (by decide) (by decide) d_X_lineOf_9 d_X_lineOf_12 d_X_lineOf_13 d_X_lineOf_15 d_X_lineOf_18
abbrev rm_X_code : Room := { frames := 3, cells := 0, slots := 0, locals := 71 }
set_option maxHeartbeats 4000000 in
set_option maxRecDepth 100000 in
theorem c_X_code (l : Launch) (E : xE) (hx : Nat) (s : Nat) (hs : s < 512) (hS : isS s = true) (plus : Bool) : xCp l E y_X_code (.code y_X_code prog_1_method_2_code 3 (some .int)) rm_X_code [.ref hx, .int (nI (s)), .int (bI plus)] [] (.inl (some (.int (nI (encF s plus))))) := by
  refine x_ofP (own := "LineCoder") (mn := "code") (lv := [(0, .ref hx), (1, .int (nI (s))), (2, .int (bI plus))]) (plainFor_of_name (by decide)) rfl rfl (Nat.le_of_ble_eq_true rfl) rfl ?_
  intro p_ e_ s_ m_ ar_ be_ me_ c_ hB
  refine x_iload_n 1 hB d_X_code_0 rfl rfl ?_
  refine x_callP (k' := 0) (n' := 0) (rest := []) (st' := []) 4 hB (x_pfS (av := [.int (nI (s))]) hB w_350 xHd_code w_1 w_348 w_349 nm_X_refuseNoSymbol rfl d_X_code_1) (c_X_rns l E s hs hS) w_350 xHd_code w_1 [] rfl rfl ⟨by decide, by decide⟩ ⟨by decide, by decide⟩ rfl rfl (Nat.le_of_ble_eq_true rfl) d_X_code_1 rfl rfl ?_
  refine x_iload_n 5 hB d_X_code_4 rfl rfl ?_
  refine x_iload_n 6 hB d_X_code_5 rfl rfl ?_
  refine x_callP (k' := 0) (n' := 0) (rest := []) (st' := [.int (nI (encF s plus))]) 9 hB (x_pfS (av := [.int (nI (s)), .int (bI plus)]) hB w_223 xHd_code w_8 w_419 w_222 nm_K_encode rfl d_X_code_6) (c_K_encode l E s hs plus) w_223 xHd_code w_8 [] rfl rfl ⟨by decide, by decide⟩ ⟨by decide, by decide⟩ rfl rfl (Nat.le_of_ble_eq_true rfl) d_X_code_6 rfl rfl ?_
  exact x_iretP hB (rfl) (by decide) (by decide) d_X_code_9
abbrev rm_X_code_b : Room := { frames := 7, cells := 1, slots := 6, locals := 103 }
set_option maxHeartbeats 4000000 in
set_option maxRecDepth 100000 in
theorem c_X_code_b (l : Launch) (E : xE) (hT : xNoTr l) (hx : Nat) (s : Nat) (hs : s < 512) (hS : isS s = false) (z : Int32) : xCp l E y_X_code (.code y_X_code prog_1_method_2_code 3 (some .int)) rm_X_code_b [.ref hx, .int (nI (s)), .int (z)] [] (.inr "java/lang/IllegalArgumentException") := by
  refine x_ofP (own := "LineCoder") (mn := "code") (lv := [(0, .ref hx), (1, .int (nI (s))), (2, .int (z))]) (plainFor_of_name (by decide)) rfl rfl (Nat.le_of_ble_eq_true rfl) rfl ?_
  intro p_ e_ s_ m_ ar_ be_ me_ c_ hB
  refine x_iload_n 1 hB d_X_code_0 rfl rfl ?_
  refine x_callPT (k' := 1) (n' := 6) (rest := []) hB (x_pfS (av := [.int (nI (s))]) hB w_350 xHd_code w_1 w_348 w_349 nm_X_refuseNoSymbol rfl d_X_code_1) (c_X_rns_b l E hT s hs hS) w_350 xHd_code w_1 [] rfl rfl ⟨by decide, by decide⟩ ⟨by decide, by decide⟩ rfl rfl (Nat.le_of_ble_eq_true rfl) d_X_code_1 ?_
  exact x_leaveP hB (by decide) (by decide) (by decide)
abbrev rm_X_code_o : Room := { frames := 7, cells := 1, slots := 6, locals := 103 }
set_option maxHeartbeats 4000000 in
set_option maxRecDepth 100000 in
theorem c_X_code_o (l : Launch) (E : xE) (hT : xNoTr l) (hx : Nat) (k z : Int32) (hk : k < 0 ∨ nI 512 ≤ k) : xCp l E y_X_code (.code y_X_code prog_1_method_2_code 3 (some .int)) rm_X_code_o [.ref hx, .int (k), .int (z)] [] (.inr "java/lang/IllegalArgumentException") := by
  refine x_ofP (own := "LineCoder") (mn := "code") (lv := [(0, .ref hx), (1, .int (k)), (2, .int (z))]) (plainFor_of_name (by decide)) rfl rfl (Nat.le_of_ble_eq_true rfl) rfl ?_
  intro p_ e_ s_ m_ ar_ be_ me_ c_ hB
  refine x_iload_n 1 hB d_X_code_0 rfl rfl ?_
  refine x_callPT (k' := 1) (n' := 6) (rest := []) hB (x_pfS (av := [.int (k)]) hB w_350 xHd_code w_1 w_348 w_349 nm_X_refuseNoSymbol rfl d_X_code_1) (c_X_rns_o l E hT k hk) w_350 xHd_code w_1 [] rfl rfl ⟨by decide, by decide⟩ ⟨by decide, by decide⟩ rfl rfl (Nat.le_of_ble_eq_true rfl) d_X_code_1 ?_
  exact x_leaveP hB (by decide) (by decide) (by decide)
abbrev rm_X_symbol_s : Room := { frames := 4, cells := 0, slots := 0, locals := 94 }
set_option maxHeartbeats 4000000 in
set_option maxRecDepth 100000 in
theorem c_X_symbol_s (l : Launch) (E : xE) (hx : Nat) (t : Nat) (ht : t < 1024) (y : Nat) (hy : decF t false = some y) : xCp l E y_X_symbol (.code y_X_symbol prog_1_method_3_code 3 (some .int)) rm_X_symbol_s [.ref hx, .int (nI (t))] [] (.inl (some (.int (nI (y))))) := by
  refine x_ofP (own := "LineCoder") (mn := "symbol") (lv := [(0, .ref hx), (1, .int (nI (t)))]) (plainFor_of_name (by decide)) rfl rfl (Nat.le_of_ble_eq_true rfl) rfl ?_
  intro p_ e_ s_ m_ ar_ be_ me_ c_ hB
  refine x_iload_n 1 hB d_X_symbol_0 rfl rfl ?_
  refine x_if_lt 11 4 hB d_X_symbol_1 (by decide) rfl (fun hc => absurd hc (nI_pos (by omega))) (fun _ => ?_)
  refine x_iload_n 5 hB d_X_symbol_4 rfl rfl ?_
  refine x_sipush (v := nI 1024) 8 hB d_X_symbol_5 rfl (by decide) ?_
  refine x_icmp_lt 21 11 hB d_X_symbol_8 (by decide) rfl (fun _ => ?_) (fun hc => absurd (nI_lt ht (by decide)) hc)
  refine x_iload_n 22 hB d_X_symbol_21 rfl rfl ?_
  refine x_iconst (v := nI 0) 23 hB d_X_symbol_22 rfl (by decide) ?_
  refine x_top (v' := .int (bI false)) (congrArg Value.int (rfl)) ?_
  refine x_callP (k' := 0) (n' := 0) (rest := []) (st' := [.int (oI (decF t false))]) 26 hB (x_pfS (av := [.int (nI (t)), .int (bI false)]) hB w_199 xHd_code w_8 w_428 w_198 nm_K_decode rfl d_X_symbol_23) (c_K_decode l E t ht false) w_199 xHd_code w_8 [] rfl rfl ⟨by decide, by decide⟩ ⟨by decide, by decide⟩ rfl rfl (Nat.le_of_ble_eq_true rfl) d_X_symbol_23 rfl rfl ?_
  refine x_top (v' := .int (nI (y))) (congrArg Value.int (by rw [hy]; rfl)) ?_
  refine x_istore_n 27 hB d_X_symbol_26 rfl (by decide) (lv' := [(2, .int (nI (y))), (0, .ref hx), (1, .int (nI (t)))]) rfl ?_
  refine x_iload_n 28 hB d_X_symbol_27 rfl rfl ?_
  refine x_iconst (v := (-1 : Int32)) 29 hB d_X_symbol_28 rfl (by decide) ?_
  refine x_icmp_eq 36 32 hB d_X_symbol_29 (by decide) rfl (fun hc => absurd hc (nI_m1 (by have := decF_lt hy; omega))) (fun _ => ?_)
  refine x_iload_n 33 hB d_X_symbol_32 rfl rfl ?_
  refine x_goto 41 hB d_X_symbol_33 (by decide) ?_
  exact x_iretP hB (rfl) (by decide) (by decide) d_X_symbol_41
abbrev rm_X_symbol_n : Room := { frames := 4, cells := 0, slots := 0, locals := 94 }
set_option maxHeartbeats 4000000 in
set_option maxRecDepth 100000 in
theorem c_X_symbol_n (l : Launch) (E : xE) (hx : Nat) (t : Nat) (ht : t < 1024) (hy : decF t false = none) : xCp l E y_X_symbol (.code y_X_symbol prog_1_method_3_code 3 (some .int)) rm_X_symbol_n [.ref hx, .int (nI (t))] [] (.inl (some (.int (oI (decF t true))))) := by
  refine x_ofP (own := "LineCoder") (mn := "symbol") (lv := [(0, .ref hx), (1, .int (nI (t)))]) (plainFor_of_name (by decide)) rfl rfl (Nat.le_of_ble_eq_true rfl) rfl ?_
  intro p_ e_ s_ m_ ar_ be_ me_ c_ hB
  refine x_iload_n 1 hB d_X_symbol_0 rfl rfl ?_
  refine x_if_lt 11 4 hB d_X_symbol_1 (by decide) rfl (fun hc => absurd hc (nI_pos (by omega))) (fun _ => ?_)
  refine x_iload_n 5 hB d_X_symbol_4 rfl rfl ?_
  refine x_sipush (v := nI 1024) 8 hB d_X_symbol_5 rfl (by decide) ?_
  refine x_icmp_lt 21 11 hB d_X_symbol_8 (by decide) rfl (fun _ => ?_) (fun hc => absurd (nI_lt ht (by decide)) hc)
  refine x_iload_n 22 hB d_X_symbol_21 rfl rfl ?_
  refine x_iconst (v := nI 0) 23 hB d_X_symbol_22 rfl (by decide) ?_
  refine x_top (v' := .int (bI false)) (congrArg Value.int (rfl)) ?_
  refine x_callP (k' := 0) (n' := 0) (rest := []) (st' := [.int (oI (decF t false))]) 26 hB (x_pfS (av := [.int (nI (t)), .int (bI false)]) hB w_199 xHd_code w_8 w_428 w_198 nm_K_decode rfl d_X_symbol_23) (c_K_decode l E t ht false) w_199 xHd_code w_8 [] rfl rfl ⟨by decide, by decide⟩ ⟨by decide, by decide⟩ rfl rfl (Nat.le_of_ble_eq_true rfl) d_X_symbol_23 rfl rfl ?_
  refine x_top (v' := .int ((-1 : Int32))) (congrArg Value.int (by rw [hy]; rfl)) ?_
  refine x_istore_n 27 hB d_X_symbol_26 rfl (by decide) (lv' := [(2, .int ((-1 : Int32))), (0, .ref hx), (1, .int (nI (t)))]) rfl ?_
  refine x_iload_n 28 hB d_X_symbol_27 rfl rfl ?_
  refine x_iconst (v := (-1 : Int32)) 29 hB d_X_symbol_28 rfl (by decide) ?_
  refine x_icmp_eq 36 32 hB d_X_symbol_29 (by decide) rfl (fun _ => ?_) (fun hc => absurd (rfl) hc)
  refine x_iload_n 37 hB d_X_symbol_36 rfl rfl ?_
  refine x_iconst (v := nI 1) 38 hB d_X_symbol_37 rfl (by decide) ?_
  refine x_top (v' := .int (bI true)) (congrArg Value.int (rfl)) ?_
  refine x_callP (k' := 0) (n' := 0) (rest := []) (st' := [.int (oI (decF t true))]) 41 hB (x_pfS (av := [.int (nI (t)), .int (bI true)]) hB w_199 xHd_code w_8 w_428 w_198 nm_K_decode rfl d_X_symbol_38) (c_K_decode l E t ht true) w_199 xHd_code w_8 [] rfl rfl ⟨by decide, by decide⟩ ⟨by decide, by decide⟩ rfl rfl (Nat.le_of_ble_eq_true rfl) d_X_symbol_38 rfl rfl ?_
  exact x_iretP hB (rfl) (by decide) (by decide) d_X_symbol_41
theorem c_X_symbol (l : Launch) (E : xE) (hx t : Nat) (ht : t < 1024) : xCp l E y_X_symbol (.code y_X_symbol prog_1_method_3_code 3 (some .int)) rm_X_symbol_s [.ref hx, .int (nI (t))] [] (.inl (some (.int (oI (syF t))))) := by
  cases hy : decF t false with
  | some y =>
    have e : oI (syF t) = nI y := by rw [syF, hy]; rfl
    rw [e]
    exact c_X_symbol_s l E hx t ht y hy
  | none =>
    have e : syF t = decF t true := by rw [syF, hy]
    rw [e]
    exact c_X_symbol_n l E hx t ht hy
abbrev rm_X_symbol_b : Room := { frames := 6, cells := 1, slots := 6, locals := 83 }
set_option maxHeartbeats 4000000 in
set_option maxRecDepth 100000 in
theorem c_X_symbol_b (l : Launch) (E : xE) (hT : xNoTr l) (hx : Nat) (k : Int32) (hk : k < 0 ∨ nI 1024 ≤ k) : xCp l E y_X_symbol (.code y_X_symbol prog_1_method_3_code 3 (some .int)) rm_X_symbol_b [.ref hx, .int (k)] [] (.inr "java/lang/IllegalArgumentException") := by
  refine x_ofP (own := "LineCoder") (mn := "symbol") (lv := [(0, .ref hx), (1, .int (k))]) (plainFor_of_name (by decide)) rfl rfl (Nat.le_of_ble_eq_true rfl) rfl ?_
  intro p_ e_ s_ m_ ar_ be_ me_ c_ hB
  refine x_iload_n 1 hB d_X_symbol_0 rfl rfl ?_
  refine x_if_lt 11 4 hB d_X_symbol_1 (by decide) rfl (fun h1 => ?_) (fun h1 => ?_)
  · skip
    exact x_throw hT hB ["java/lang/RuntimeException", "java/lang/Exception"] w_352 w_353 w_12 w_427 tw_X_60 (by decide) (by decide) (by decide) (by decide) ⟨by decide, by decide⟩ (by decide) (by decide) (by decide) d_X_symbol_11 d_X_symbol_14 d_X_symbol_15 d_X_symbol_17 d_X_symbol_20
  · skip
    refine x_iload_n 5 hB d_X_symbol_4 rfl rfl ?_
    refine x_sipush (v := nI 1024) 8 hB d_X_symbol_5 rfl (by decide) ?_
    refine x_icmp_lt 21 11 hB d_X_symbol_8 (by decide) rfl (fun hc => absurd hc (fun h => absurd h (Int32.not_lt.mpr (hk.resolve_left h1)))) (fun _ => ?_)
    exact x_throw hT hB ["java/lang/RuntimeException", "java/lang/Exception"] w_352 w_353 w_12 w_427 tw_X_60 (by decide) (by decide) (by decide) (by decide) ⟨by decide, by decide⟩ (by decide) (by decide) (by decide) d_X_symbol_11 d_X_symbol_14 d_X_symbol_15 d_X_symbol_17 d_X_symbol_20
abbrev rm_X_send : Room := { frames := 3, cells := 0, slots := 0, locals := 71 }
set_option maxHeartbeats 4000000 in
set_option maxRecDepth 100000 in
theorem c_X_send (l : Launch) (E : xE) (hx h0 h1 ht hw hz : Nat) (sp : Bool) (a0 n p : Nat) (f : Nat → Int32) (s : Nat) (hs : s < 512) (hS : isS s = true) (hq : n + 10 ≤ 2640) : xC l E y_X_send (.code y_X_send prog_1_method_4_code 3 (some .int)) rm_X_send [.ref hx, .int (nI (s))] [(hx, .inr (4, [.ref h0, .ref h1, .ref ht, .ref hw, .ref hz, .int (bI sp)])), (h0, .inr (0, [.ref a0, .int (nI (n)), .int (nI (p))])), (a0, .inl (E.2 0, 2640, .inl (f)))] (xRet (some (.int (nI (encF s sp)))) [(hx, .inr (4, [.ref h0, .ref h1, .ref ht, .ref hw, .ref hz, .int (bI (pbT (encF s sp) sp))])), (h0, .inr (0, [.ref a0, .int (nI (n + 10)), .int (nI (p))])), (a0, .inl (E.2 0, 2640, .inl (apF f n (nI (encF s sp)) 10 10)))]) := by
  refine x_of' (own := "LineCoder") (mn := "send") (lv := [(0, .ref hx), (1, .int (nI (s)))]) (plainFor_of_name (by decide)) rfl rfl (Nat.le_of_ble_eq_true rfl) rfl ?_
  intro p_ e_ s_ m_ ar_ be_ me_ c_ A_ hA hB
  refine x_iload_n 1 hB d_X_send_0 rfl rfl ?_
  refine x_callP (k' := 0) (n' := 0) (rest := []) (st' := []) 4 hB (x_pfS (av := [.int (nI (s))]) hB w_350 xHd_code w_1 w_348 w_349 nm_X_refuseNoSymbol rfl d_X_send_1) (c_X_rns l E s hs hS) w_350 xHd_code w_1 [] rfl rfl ⟨by decide, by decide⟩ ⟨by decide, by decide⟩ rfl rfl (Nat.le_of_ble_eq_true rfl) d_X_send_1 rfl rfl ?_
  refine x_aload_n 5 hB d_X_send_4 rfl rfl ?_
  refine x_get 8 hB 0 fg_X_10_4 rfl rfl d_X_send_5 rfl ?_
  refine x_bipush (v := nI 10) 10 hB d_X_send_8 rfl (by decide) ?_
  refine x_callP (k' := 0) (n' := 0) (rest := []) (st' := []) 13 hB (x_pfS (av := [.ref h0, .int (nI 10)]) hB w_439 xHd_code w_1 w_437 w_438 nm_X_refuseNoRoom rfl d_X_send_10) (c_X_rnr l E h0 a0 n p 10 hq) w_439 xHd_code w_1 [1] rfl rfl ⟨by decide, by decide⟩ ⟨by decide, by decide⟩ rfl rfl (Nat.le_of_ble_eq_true rfl) d_X_send_10 rfl rfl ?_
  refine x_iload_n 14 hB d_X_send_13 rfl rfl ?_
  refine x_aload_n 15 hB d_X_send_14 rfl rfl ?_
  refine x_get 18 hB 0 fg_X_42_4 rfl rfl d_X_send_15 rfl ?_
  refine x_callP (k' := 0) (n' := 0) (rest := []) (st' := [.int (nI (encF s sp))]) 21 hB (x_pfS (av := [.int (nI (s)), .int (bI sp)]) hB w_223 xHd_code w_8 w_419 w_222 nm_K_encode rfl d_X_send_18) (c_K_encode l E s hs sp) w_223 xHd_code w_8 [] rfl rfl ⟨by decide, by decide⟩ ⟨by decide, by decide⟩ rfl rfl (Nat.le_of_ble_eq_true rfl) d_X_send_18 rfl rfl ?_
  refine x_istore_n 22 hB d_X_send_21 rfl (by decide) (lv' := [(2, .int (nI (encF s sp))), (0, .ref hx), (1, .int (nI (s)))]) rfl ?_
  refine x_aload_n 23 hB d_X_send_22 rfl rfl ?_
  refine x_get 26 hB 0 fg_X_10_4 rfl rfl d_X_send_23 rfl ?_
  refine x_iload_n 27 hB d_X_send_26 rfl rfl ?_
  refine x_bipush (v := nI 10) 29 hB d_X_send_27 rfl (by decide) ?_
  refine x_callD (k' := 0) (n' := 0) (rest := []) (wr := [(hx, .inr (4, [.ref h0, .ref h1, .ref ht, .ref hw, .ref hz, .int (bI sp)]))]) (ws' := [(hx, .inr (4, [.ref h0, .ref h1, .ref ht, .ref hw, .ref hz, .int (bI sp)])), (h0, .inr (0, [.ref a0, .int (nI (n + 10)), .int (nI (p))])), (a0, .inl (E.2 0, 2640, .inl (apF f n (nI (encF s sp)) 10 10)))]) (st' := []) 32 hB (x_pfV (av := [.int (nI (encF s sp)), .int (nI 10)]) (q0 := 1) hB w_463 xHd_code w_460 w_461 w_462 rfl rfl nm_L_append rfl d_X_send_29) (c_L_append l E h0 a0 n p f (nI (encF s sp)) 10 hq) w_463 xHd_code w_2 [1, 2] [0] rfl rfl rfl rfl (by decide) ⟨by decide, by decide⟩ ⟨by decide, by decide⟩ rfl rfl (Nat.le_of_ble_eq_true rfl) d_X_send_29 rfl rfl rfl ?_
  refine x_aload_n 33 hB d_X_send_32 rfl rfl ?_
  refine x_iload_n 34 hB d_X_send_33 rfl rfl ?_
  refine x_aload_n 35 hB d_X_send_34 rfl rfl ?_
  refine x_get 38 hB 0 fg_X_42_4 rfl rfl d_X_send_35 rfl ?_
  refine x_callP (k' := 0) (n' := 0) (rest := [.ref hx]) (st' := [.int (bI (pbT (encF s sp) sp)), .ref hx]) 41 hB (x_pfS (av := [.int (nI (encF s sp)), .int (bI sp)]) hB w_235 xHd_code w_8 w_464 w_234 nm_K_plusBehind rfl d_X_send_38) (c_K_plusBehind l E (encF s sp) (encF_lt s sp) sp) w_235 xHd_code w_8 [] rfl rfl ⟨by decide, by decide⟩ ⟨by decide, by decide⟩ rfl rfl (Nat.le_of_ble_eq_true rfl) d_X_send_38 rfl rfl ?_
  refine x_put 44 hB 0 (ws' := [(hx, .inr (4, [.ref h0, .ref h1, .ref ht, .ref hw, .ref hz, .int (bI (pbT (encF s sp) sp))])), (h0, .inr (0, [.ref a0, .int (nI (n + 10)), .int (nI (p))])), (a0, .inl (E.2 0, 2640, .inl (apF f n (nI (encF s sp)) 10 10)))]) fp_X_42_4 rfl (nrb _) (by cases (pbT (encF s sp) sp) <;> rfl) (Nat.le_of_ble_eq_true rfl) rfl d_X_send_41 rfl ?_
  refine x_iload_n 45 hB d_X_send_44 rfl rfl ?_
  exact x_iret hB (w' := [(hx, .inr (4, [.ref h0, .ref h1, .ref ht, .ref hw, .ref hz, .int (bI (pbT (encF s sp) sp))])), (h0, .inr (0, [.ref a0, .int (nI (n + 10)), .int (nI (p))])), (a0, .inl (E.2 0, 2640, .inl (apF f n (nI (encF s sp)) 10 10)))]) hA [0, 1, 2] rfl rfl (xRet_i) (by decide) (by decide) d_X_send_45
abbrev rm_X_send_b : Room := { frames := 7, cells := 1, slots := 6, locals := 103 }
set_option maxHeartbeats 4000000 in
set_option maxRecDepth 100000 in
theorem c_X_send_b (l : Launch) (E : xE) (hT : xNoTr l) (hx : Nat) (s : Nat) (hs : s < 512) (hS : isS s = false) : xCp l E y_X_send (.code y_X_send prog_1_method_4_code 3 (some .int)) rm_X_send_b [.ref hx, .int (nI (s))] [] (.inr "java/lang/IllegalArgumentException") := by
  refine x_ofP (own := "LineCoder") (mn := "send") (lv := [(0, .ref hx), (1, .int (nI (s)))]) (plainFor_of_name (by decide)) rfl rfl (Nat.le_of_ble_eq_true rfl) rfl ?_
  intro p_ e_ s_ m_ ar_ be_ me_ c_ hB
  refine x_iload_n 1 hB d_X_send_0 rfl rfl ?_
  refine x_callPT (k' := 1) (n' := 6) (rest := []) hB (x_pfS (av := [.int (nI (s))]) hB w_350 xHd_code w_1 w_348 w_349 nm_X_refuseNoSymbol rfl d_X_send_1) (c_X_rns_b l E hT s hs hS) w_350 xHd_code w_1 [] rfl rfl ⟨by decide, by decide⟩ ⟨by decide, by decide⟩ rfl rfl (Nat.le_of_ble_eq_true rfl) d_X_send_1 ?_
  exact x_leaveP hB (by decide) (by decide) (by decide)
abbrev rm_X_send_o : Room := { frames := 7, cells := 1, slots := 6, locals := 103 }
set_option maxHeartbeats 4000000 in
set_option maxRecDepth 100000 in
theorem c_X_send_o (l : Launch) (E : xE) (hT : xNoTr l) (hx : Nat) (k : Int32) (hk : k < 0 ∨ nI 512 ≤ k) : xCp l E y_X_send (.code y_X_send prog_1_method_4_code 3 (some .int)) rm_X_send_o [.ref hx, .int (k)] [] (.inr "java/lang/IllegalArgumentException") := by
  refine x_ofP (own := "LineCoder") (mn := "send") (lv := [(0, .ref hx), (1, .int (k))]) (plainFor_of_name (by decide)) rfl rfl (Nat.le_of_ble_eq_true rfl) rfl ?_
  intro p_ e_ s_ m_ ar_ be_ me_ c_ hB
  refine x_iload_n 1 hB d_X_send_0 rfl rfl ?_
  refine x_callPT (k' := 1) (n' := 6) (rest := []) hB (x_pfS (av := [.int (k)]) hB w_350 xHd_code w_1 w_348 w_349 nm_X_refuseNoSymbol rfl d_X_send_1) (c_X_rns_o l E hT k hk) w_350 xHd_code w_1 [] rfl rfl ⟨by decide, by decide⟩ ⟨by decide, by decide⟩ rfl rfl (Nat.le_of_ble_eq_true rfl) d_X_send_1 ?_
  exact x_leaveP hB (by decide) (by decide) (by decide)
abbrev rm_X_send_f : Room := { frames := 7, cells := 1, slots := 6, locals := 104 }
set_option maxHeartbeats 4000000 in
set_option maxRecDepth 100000 in
theorem c_X_send_f (l : Launch) (E : xE) (hT : xNoTr l) (hx h0 h1 ht hw hz : Nat) (sp : Bool) (a0 n p : Nat) (s : Nat) (hs : s < 512) (hS : isS s = true) (hn : n ≤ 2640) (hq : 2640 < n + 10) : xCp l E y_X_send (.code y_X_send prog_1_method_4_code 3 (some .int)) rm_X_send_f [.ref hx, .int (nI (s))] [(hx, .inr (4, [.ref h0, .ref h1, .ref ht, .ref hw, .ref hz, .int (bI sp)])), (h0, .inr (0, [.ref a0, .int (nI (n)), .int (nI (p))]))] (.inr "java/lang/IllegalStateException") := by
  refine x_ofP (own := "LineCoder") (mn := "send") (lv := [(0, .ref hx), (1, .int (nI (s)))]) (plainFor_of_name (by decide)) rfl rfl (Nat.le_of_ble_eq_true rfl) rfl ?_
  intro p_ e_ s_ m_ ar_ be_ me_ c_ hB
  refine x_iload_n 1 hB d_X_send_0 rfl rfl ?_
  refine x_callP (k' := 0) (n' := 0) (rest := []) (st' := []) 4 hB (x_pfS (av := [.int (nI (s))]) hB w_350 xHd_code w_1 w_348 w_349 nm_X_refuseNoSymbol rfl d_X_send_1) (c_X_rns l E s hs hS) w_350 xHd_code w_1 [] rfl rfl ⟨by decide, by decide⟩ ⟨by decide, by decide⟩ rfl rfl (Nat.le_of_ble_eq_true rfl) d_X_send_1 rfl rfl ?_
  refine x_aload_n 5 hB d_X_send_4 rfl rfl ?_
  refine x_get 8 hB 0 fg_X_10_4 rfl rfl d_X_send_5 rfl ?_
  refine x_bipush (v := nI 10) 10 hB d_X_send_8 rfl (by decide) ?_
  refine x_callPT (k' := 1) (n' := 6) (rest := []) hB (x_pfS (av := [.ref h0, .int (nI 10)]) hB w_439 xHd_code w_1 w_437 w_438 nm_X_refuseNoRoom rfl d_X_send_10) (c_X_rnr_b l E hT h0 a0 n p 10 hn hq (by omega)) w_439 xHd_code w_1 [1] rfl rfl ⟨by decide, by decide⟩ ⟨by decide, by decide⟩ rfl rfl (Nat.le_of_ble_eq_true rfl) d_X_send_10 ?_
  exact x_leaveP hB (by decide) (by decide) (by decide)
