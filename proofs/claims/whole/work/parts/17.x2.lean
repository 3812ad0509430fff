abbrev rm_X_raw0 : Room := { frames := 2, cells := 0, slots := 0, locals := 42 }
set_option maxHeartbeats 4000000 in
set_option maxRecDepth 100000 in
theorem c_X_raw0 (l : Launch) (E : xE) (hx h0 h1 ht hw hz : Nat) (sp : Bool) (a0 n p : Nat) (f : Nat → Int32) (x : Int32) (q : Nat) (hq : q ≤ 32) (hr : n + q ≤ 2640) : xC l E y_X_raw (.code y_X_raw prog_1_method_9_code 5 (some .int)) rm_X_raw0 [.ref hx, .int (nI 0), .int (x), .int (nI (q))] [(hx, .inr (4, [.ref h0, .ref h1, .ref ht, .ref hw, .ref hz, .int (bI sp)])), (h0, .inr (0, [.ref a0, .int (nI (n)), .int (nI (p))])), (a0, .inl (E.2 0, 2640, .inl (f)))] (xRet (some (.int (nI (n + q)))) [(hx, .inr (4, [.ref h0, .ref h1, .ref ht, .ref hw, .ref hz, .int (bI sp)])), (h0, .inr (0, [.ref a0, .int (nI (n + q)), .int (nI (p))])), (a0, .inl (E.2 0, 2640, .inl (apF f n x q q)))]) := by
  refine x_of' (own := "LineCoder") (mn := "raw") (lv := [(0, .ref hx), (1, .int (nI 0)), (2, .int (x)), (3, .int (nI (q)))]) (plainFor_of_name (by decide)) rfl rfl (Nat.le_of_ble_eq_true rfl) rfl ?_
  intro p_ e_ s_ m_ ar_ be_ me_ c_ A_ hA hB
  refine x_aload_n 1 hB d_X_raw_0 rfl rfl ?_
  refine x_iload_n 2 hB d_X_raw_1 rfl rfl ?_
  refine x_callP (k' := 0) (n' := 0) (rest := []) (st' := [.ref h0]) 5 hB (x_pfV (av := [.int (nI 0)]) (q0 := 0) hB w_490 xHd_code w_487 w_489 s_X_lineOf rfl rfl nm_X_lineOf rfl d_X_raw_2) (c_X_lineOf_0 l E hx h0 h1 ht hw hz sp) w_490 xHd_code w_1 [0] rfl rfl ⟨by decide, by decide⟩ ⟨by decide, by decide⟩ rfl rfl (Nat.le_of_ble_eq_true rfl) d_X_raw_2 rfl rfl ?_
  refine x_astore 7 hB d_X_raw_5 rfl (by decide) (lv' := [(4, .ref h0), (0, .ref hx), (1, .int (nI 0)), (2, .int (x)), (3, .int (nI (q)))]) rfl ?_
  refine x_iload_n 8 hB d_X_raw_7 rfl rfl ?_
  refine x_if_lt 17 11 hB d_X_raw_8 (by decide) rfl (fun hc => absurd hc (nI_pos (by omega))) (fun _ => ?_)
  refine x_iload_n 12 hB d_X_raw_11 rfl rfl ?_
  refine x_bipush (v := nI 32) 14 hB d_X_raw_12 rfl (by decide) ?_
  refine x_icmp_le 27 17 hB d_X_raw_14 (by decide) rfl (fun _ => ?_) (fun hc => absurd (nI_le hq (by decide)) hc)
  refine x_aload 29 hB d_X_raw_27 rfl rfl ?_
  refine x_iload_n 30 hB d_X_raw_29 rfl rfl ?_
  refine x_callP (k' := 0) (n' := 0) (rest := []) (st' := []) 33 hB (x_pfS (av := [.ref h0, .int (nI (q))]) hB w_439 xHd_code w_1 w_437 w_438 nm_X_refuseNoRoom rfl d_X_raw_30) (c_X_rnr l E h0 a0 n p q hr) w_439 xHd_code w_1 [1] rfl rfl ⟨by decide, by decide⟩ ⟨by decide, by decide⟩ rfl rfl (Nat.le_of_ble_eq_true rfl) d_X_raw_30 rfl rfl ?_
  refine x_aload 35 hB d_X_raw_33 rfl rfl ?_
  refine x_iload_n 36 hB d_X_raw_35 rfl rfl ?_
  refine x_iload_n 37 hB d_X_raw_36 rfl rfl ?_
  refine x_callD (k' := 0) (n' := 0) (rest := []) (wr := [(hx, .inr (4, [.ref h0, .ref h1, .ref ht, .ref hw, .ref hz, .int (bI sp)]))]) (ws' := [(hx, .inr (4, [.ref h0, .ref h1, .ref ht, .ref hw, .ref hz, .int (bI sp)])), (h0, .inr (0, [.ref a0, .int (nI (n + q)), .int (nI (p))])), (a0, .inl (E.2 0, 2640, .inl (apF f n x q q)))]) (st' := []) 40 hB (x_pfV (av := [.int (x), .int (nI (q))]) (q0 := 1) hB w_463 xHd_code w_460 w_461 w_462 rfl rfl nm_L_append rfl d_X_raw_37) (c_L_append l E h0 a0 n p f x q hr) w_463 xHd_code w_2 [1, 2] [0] rfl rfl rfl rfl (by decide) ⟨by decide, by decide⟩ ⟨by decide, by decide⟩ rfl rfl (Nat.le_of_ble_eq_true rfl) d_X_raw_37 rfl rfl rfl ?_
  refine x_aload 42 hB d_X_raw_40 rfl rfl ?_
  refine x_callP (k' := 0) (n' := 0) (rest := []) (st' := [.int (nI (n + q))]) 45 hB (x_pfV (av := []) (q0 := 1) hB w_479 xHd_code w_476 w_477 w_478 rfl rfl nm_L_size rfl d_X_raw_42) (c_L_size l E h0 a0 (n + q) p) w_479 xHd_code w_2 [1] rfl rfl ⟨by decide, by decide⟩ ⟨by decide, by decide⟩ rfl rfl (Nat.le_of_ble_eq_true rfl) d_X_raw_42 rfl rfl ?_
  exact x_iret hB (w' := [(hx, .inr (4, [.ref h0, .ref h1, .ref ht, .ref hw, .ref hz, .int (bI sp)])), (h0, .inr (0, [.ref a0, .int (nI (n + q)), .int (nI (p))])), (a0, .inl (E.2 0, 2640, .inl (apF f n x q q)))]) hA [0, 1, 2] rfl rfl (xRet_i) (by decide) (by decide) d_X_raw_45
abbrev rm_X_raw0_m : Room := { frames := 6, cells := 1, slots := 6, locals := 83 }
set_option maxHeartbeats 4000000 in
set_option maxRecDepth 100000 in
theorem c_X_raw0_m (l : Launch) (E : xE) (hT : xNoTr l) (hx h0 h1 ht hw hz : Nat) (sp : Bool) (x z : Int32) (hz9 : z < 0 ∨ nI 32 < z) : xCp l E y_X_raw (.code y_X_raw prog_1_method_9_code 5 (some .int)) rm_X_raw0_m [.ref hx, .int (nI 0), .int (x), .int (z)] [(hx, .inr (4, [.ref h0, .ref h1, .ref ht, .ref hw, .ref hz, .int (bI sp)]))] (.inr "java/lang/IllegalArgumentException") := by
  refine x_ofP (own := "LineCoder") (mn := "raw") (lv := [(0, .ref hx), (1, .int (nI 0)), (2, .int (x)), (3, .int (z))]) (plainFor_of_name (by decide)) rfl rfl (Nat.le_of_ble_eq_true rfl) rfl ?_
  intro p_ e_ s_ m_ ar_ be_ me_ c_ hB
  refine x_aload_n 1 hB d_X_raw_0 rfl rfl ?_
  refine x_iload_n 2 hB d_X_raw_1 rfl rfl ?_
  refine x_callP (k' := 0) (n' := 0) (rest := []) (st' := [.ref h0]) 5 hB (x_pfV (av := [.int (nI 0)]) (q0 := 0) hB w_490 xHd_code w_487 w_489 s_X_lineOf rfl rfl nm_X_lineOf rfl d_X_raw_2) (c_X_lineOf_0 l E hx h0 h1 ht hw hz sp) w_490 xHd_code w_1 [0] rfl rfl ⟨by decide, by decide⟩ ⟨by decide, by decide⟩ rfl rfl (Nat.le_of_ble_eq_true rfl) d_X_raw_2 rfl rfl ?_
  refine x_astore 7 hB d_X_raw_5 rfl (by decide) (lv' := [(4, .ref h0), (0, .ref hx), (1, .int (nI 0)), (2, .int (x)), (3, .int (z))]) rfl ?_
  refine x_iload_n 8 hB d_X_raw_7 rfl rfl ?_
  refine x_if_lt 17 11 hB d_X_raw_8 (by decide) rfl (fun h8 => ?_) (fun h8 => ?_)
  · skip
    exact x_throw hT hB ["java/lang/RuntimeException", "java/lang/Exception"] w_352 w_353 w_12 w_492 tw_X_60 (by decide) (by decide) (by decide) (by decide) ⟨by decide, by decide⟩ (by decide) (by decide) (by decide) d_X_raw_17 d_X_raw_20 d_X_raw_21 d_X_raw_23 d_X_raw_26
  · skip
    refine x_iload_n 12 hB d_X_raw_11 rfl rfl ?_
    refine x_bipush (v := nI 32) 14 hB d_X_raw_12 rfl (by decide) ?_
    refine x_icmp_le 27 17 hB d_X_raw_14 (by decide) rfl (fun hc => absurd hc (fun h => absurd (hz9.resolve_left h8) (Int32.not_lt.mpr h))) (fun _ => ?_)
    exact x_throw hT hB ["java/lang/RuntimeException", "java/lang/Exception"] w_352 w_353 w_12 w_492 tw_X_60 (by decide) (by decide) (by decide) (by decide) ⟨by decide, by decide⟩ (by decide) (by decide) (by decide) d_X_raw_17 d_X_raw_20 d_X_raw_21 d_X_raw_23 d_X_raw_26
abbrev rm_X_raw0_f : Room := { frames := 7, cells := 1, slots := 6, locals := 104 }
set_option maxHeartbeats 4000000 in
set_option maxRecDepth 100000 in
theorem c_X_raw0_f (l : Launch) (E : xE) (hT : xNoTr l) (hx h0 h1 ht hw hz : Nat) (sp : Bool) (a0 n p : Nat) (x : Int32) (q : Nat) (hq : q ≤ 32) (hn : n ≤ 2640) (hr : 2640 < n + q) : xCp l E y_X_raw (.code y_X_raw prog_1_method_9_code 5 (some .int)) rm_X_raw0_f [.ref hx, .int (nI 0), .int (x), .int (nI (q))] [(hx, .inr (4, [.ref h0, .ref h1, .ref ht, .ref hw, .ref hz, .int (bI sp)])), (h0, .inr (0, [.ref a0, .int (nI (n)), .int (nI (p))]))] (.inr "java/lang/IllegalStateException") := by
  refine x_ofP (own := "LineCoder") (mn := "raw") (lv := [(0, .ref hx), (1, .int (nI 0)), (2, .int (x)), (3, .int (nI (q)))]) (plainFor_of_name (by decide)) rfl rfl (Nat.le_of_ble_eq_true rfl) rfl ?_
  intro p_ e_ s_ m_ ar_ be_ me_ c_ hB
  refine x_aload_n 1 hB d_X_raw_0 rfl rfl ?_
  refine x_iload_n 2 hB d_X_raw_1 rfl rfl ?_
  refine x_callP (k' := 0) (n' := 0) (rest := []) (st' := [.ref h0]) 5 hB (x_pfV (av := [.int (nI 0)]) (q0 := 0) hB w_490 xHd_code w_487 w_489 s_X_lineOf rfl rfl nm_X_lineOf rfl d_X_raw_2) (c_X_lineOf_0 l E hx h0 h1 ht hw hz sp) w_490 xHd_code w_1 [0] rfl rfl ⟨by decide, by decide⟩ ⟨by decide, by decide⟩ rfl rfl (Nat.le_of_ble_eq_true rfl) d_X_raw_2 rfl rfl ?_
  refine x_astore 7 hB d_X_raw_5 rfl (by decide) (lv' := [(4, .ref h0), (0, .ref hx), (1, .int (nI 0)), (2, .int (x)), (3, .int (nI (q)))]) rfl ?_
  refine x_iload_n 8 hB d_X_raw_7 rfl rfl ?_
  refine x_if_lt 17 11 hB d_X_raw_8 (by decide) rfl (fun hc => absurd hc (nI_pos (by omega))) (fun _ => ?_)
  refine x_iload_n 12 hB d_X_raw_11 rfl rfl ?_
  refine x_bipush (v := nI 32) 14 hB d_X_raw_12 rfl (by decide) ?_
  refine x_icmp_le 27 17 hB d_X_raw_14 (by decide) rfl (fun _ => ?_) (fun hc => absurd (nI_le hq (by decide)) hc)
  refine x_aload 29 hB d_X_raw_27 rfl rfl ?_
  refine x_iload_n 30 hB d_X_raw_29 rfl rfl ?_
  refine x_callPT (k' := 1) (n' := 6) (rest := []) hB (x_pfS (av := [.ref h0, .int (nI (q))]) hB w_439 xHd_code w_1 w_437 w_438 nm_X_refuseNoRoom rfl d_X_raw_30) (c_X_rnr_b l E hT h0 a0 n p q hn hr (by omega)) w_439 xHd_code w_1 [1] rfl rfl ⟨by decide, by decide⟩ ⟨by decide, by decide⟩ rfl rfl (Nat.le_of_ble_eq_true rfl) d_X_raw_30 ?_
  exact x_leaveP hB (by decide) (by decide) (by decide)
abbrev rm_X_bend0 : Room := { frames := 2, cells := 0, slots := 0, locals := 42 }
set_option maxHeartbeats 4000000 in
set_option maxRecDepth 100000 in
theorem c_X_bend0 (l : Launch) (E : xE) (hx h0 h1 ht hw hz : Nat) (sp : Bool) (a0 n p : Nat) (f : Nat → Int32) (j : Nat) (hj : j < n) (hn : n ≤ 2640) (hb : f j = 0 ∨ f j = 1) : xC l E y_X_bend (.code y_X_bend prog_1_method_10_code 4 (some .boolean)) rm_X_bend0 [.ref hx, .int (nI 0), .int (nI (j))] [(hx, .inr (4, [.ref h0, .ref h1, .ref ht, .ref hw, .ref hz, .int (bI sp)])), (h0, .inr (0, [.ref a0, .int (nI (n)), .int (nI (p))])), (a0, .inl (E.2 0, 2640, .inl (f)))] (xRet (some (.int (bI (decide (f j = 0))))) [(hx, .inr (4, [.ref h0, .ref h1, .ref ht, .ref hw, .ref hz, .int (bI sp)])), (h0, .inr (0, [.ref a0, .int (nI (n)), .int (nI (p))])), (a0, .inl (E.2 0, 2640, .inl (upd f j (1 - f j))))]) := by
  refine x_of' (own := "LineCoder") (mn := "bend") (lv := [(0, .ref hx), (1, .int (nI 0)), (2, .int (nI (j)))]) (plainFor_of_name (by decide)) rfl rfl (Nat.le_of_ble_eq_true rfl) rfl ?_
  intro p_ e_ s_ m_ ar_ be_ me_ c_ A_ hA hB
  refine x_aload_n 1 hB d_X_bend_0 rfl rfl ?_
  refine x_iload_n 2 hB d_X_bend_1 rfl rfl ?_
  refine x_callP (k' := 0) (n' := 0) (rest := []) (st' := [.ref h0]) 5 hB (x_pfV (av := [.int (nI 0)]) (q0 := 0) hB w_490 xHd_code w_487 w_489 s_X_lineOf rfl rfl nm_X_lineOf rfl d_X_bend_2) (c_X_lineOf_0 l E hx h0 h1 ht hw hz sp) w_490 xHd_code w_1 [0] rfl rfl ⟨by decide, by decide⟩ ⟨by decide, by decide⟩ rfl rfl (Nat.le_of_ble_eq_true rfl) d_X_bend_2 rfl rfl ?_
  refine x_astore_n 6 hB d_X_bend_5 rfl (by decide) (lv' := [(3, .ref h0), (0, .ref hx), (1, .int (nI 0)), (2, .int (nI (j)))]) rfl ?_
  refine x_aload_n 7 hB d_X_bend_6 rfl rfl ?_
  refine x_iload_n 8 hB d_X_bend_7 rfl rfl ?_
  refine x_callP (k' := 0) (n' := 0) (rest := []) (st' := [.int (nI 1)]) 11 hB (x_pfV (av := [.int (nI (j))]) (q0 := 1) hB w_177 xHd_code w_501 w_175 w_176 rfl rfl nm_L_has rfl d_X_bend_8) (c_L_has_in l E h0 a0 n p j hj hn) w_177 xHd_code w_2 [1] rfl rfl ⟨by decide, by decide⟩ ⟨by decide, by decide⟩ rfl rfl (Nat.le_of_ble_eq_true rfl) d_X_bend_8 rfl rfl ?_
  refine x_if_ne 24 14 hB d_X_bend_11 (by decide) rfl (fun _ => ?_) (fun hc => absurd hc (by decide))
  refine x_aload_n 25 hB d_X_bend_24 rfl rfl ?_
  refine x_iload_n 26 hB d_X_bend_25 rfl rfl ?_
  refine x_callD (k' := 0) (n' := 0) (rest := []) (wr := [(hx, .inr (4, [.ref h0, .ref h1, .ref ht, .ref hw, .ref hz, .int (bI sp)]))]) (ws' := [(hx, .inr (4, [.ref h0, .ref h1, .ref ht, .ref hw, .ref hz, .int (bI sp)])), (h0, .inr (0, [.ref a0, .int (nI (n)), .int (nI (p))])), (a0, .inl (E.2 0, 2640, .inl (upd f j (1 - f j))))]) (st' := []) 29 hB (x_pfV (av := [.int (nI (j))]) (q0 := 1) hB w_521 xHd_code w_518 w_519 w_520 rfl rfl nm_L_turn rfl d_X_bend_26) (c_L_turn l E h0 a0 n p f j hj hn hb) w_521 xHd_code w_2 [1, 2] [0] rfl rfl rfl rfl (by decide) ⟨by decide, by decide⟩ ⟨by decide, by decide⟩ rfl rfl (Nat.le_of_ble_eq_true rfl) d_X_bend_26 rfl rfl rfl ?_
  refine x_aload_n 30 hB d_X_bend_29 rfl rfl ?_
  refine x_iload_n 31 hB d_X_bend_30 rfl rfl ?_
  refine x_callP (k' := 0) (n' := 0) (rest := []) (st' := [.int ((upd f j (1 - f j)) (j))]) 34 hB (x_pfV (av := [.int (nI (j))]) (q0 := 1) hB w_173 xHd_code w_522 w_171 w_172 rfl rfl nm_L_at rfl d_X_bend_31) (c_L_at_in l E h0 a0 n p (upd f j (1 - f j)) j hj hn) w_173 xHd_code w_2 [1, 2] rfl rfl ⟨by decide, by decide⟩ ⟨by decide, by decide⟩ rfl rfl (Nat.le_of_ble_eq_true rfl) d_X_bend_31 rfl rfl ?_
  refine x_top (v' := .int (1 - f j)) (congrArg Value.int (pk_us)) ?_
  refine x_iconst (v := nI 1) 35 hB d_X_bend_34 rfl (by decide) ?_
  refine x_icmp_ne 42 38 hB d_X_bend_35 (by decide) rfl (fun h35 => ?_) (fun h35 => ?_)
  · skip
    have k35 : ¬ f j = 0 := fun h => h35 ((turn01 hb).mpr h)
    refine x_iconst (v := nI 0) 43 hB d_X_bend_42 rfl (by decide) ?_
    exact x_zret hB (by decide) (w' := [(hx, .inr (4, [.ref h0, .ref h1, .ref ht, .ref hw, .ref hz, .int (bI sp)])), (h0, .inr (0, [.ref a0, .int (nI (n)), .int (nI (p))])), (a0, .inl (E.2 0, 2640, .inl (upd f j (1 - f j))))]) hA [0, 1, 2] rfl rfl (⟨by rw [show (nI 0) = bI (decide (f j = 0)) from bF0 (decide_eq_false k35)], rfl⟩) (by decide) (by decide) d_X_bend_43
  · skip
    have k35 : f j = 0 := (turn01 hb).mp h35
    refine x_iconst (v := nI 1) 39 hB d_X_bend_38 rfl (by decide) ?_
    refine x_goto 43 hB d_X_bend_39 (by decide) ?_
    exact x_zret hB (by decide) (w' := [(hx, .inr (4, [.ref h0, .ref h1, .ref ht, .ref hw, .ref hz, .int (bI sp)])), (h0, .inr (0, [.ref a0, .int (nI (n)), .int (nI (p))])), (a0, .inl (E.2 0, 2640, .inl (upd f j (1 - f j))))]) hA [0, 1, 2] rfl rfl (⟨by rw [show (nI 1) = bI (decide (f j = 0)) from bT (decide_eq_true k35)], rfl⟩) (by decide) (by decide) d_X_bend_43
abbrev rm_X_bend0_o : Room := { frames := 6, cells := 1, slots := 6, locals := 83 }
set_option maxHeartbeats 4000000 in
set_option maxRecDepth 100000 in
theorem c_X_bend0_o (l : Launch) (E : xE) (hT : xNoTr l) (hx h0 h1 ht hw hz : Nat) (sp : Bool) (a0 n p : Nat) (k : Int32) (hk : k < 0 ∨ nI n ≤ k) : xCp l E y_X_bend (.code y_X_bend prog_1_method_10_code 4 (some .boolean)) rm_X_bend0_o [.ref hx, .int (nI 0), .int (k)] [(hx, .inr (4, [.ref h0, .ref h1, .ref ht, .ref hw, .ref hz, .int (bI sp)])), (h0, .inr (0, [.ref a0, .int (nI (n)), .int (nI (p))]))] (.inr "java/lang/IndexOutOfBoundsException") := by
  refine x_ofP (own := "LineCoder") (mn := "bend") (lv := [(0, .ref hx), (1, .int (nI 0)), (2, .int (k))]) (plainFor_of_name (by decide)) rfl rfl (Nat.le_of_ble_eq_true rfl) rfl ?_
  intro p_ e_ s_ m_ ar_ be_ me_ c_ hB
  refine x_aload_n 1 hB d_X_bend_0 rfl rfl ?_
  refine x_iload_n 2 hB d_X_bend_1 rfl rfl ?_
  refine x_callP (k' := 0) (n' := 0) (rest := []) (st' := [.ref h0]) 5 hB (x_pfV (av := [.int (nI 0)]) (q0 := 0) hB w_490 xHd_code w_487 w_489 s_X_lineOf rfl rfl nm_X_lineOf rfl d_X_bend_2) (c_X_lineOf_0 l E hx h0 h1 ht hw hz sp) w_490 xHd_code w_1 [0] rfl rfl ⟨by decide, by decide⟩ ⟨by decide, by decide⟩ rfl rfl (Nat.le_of_ble_eq_true rfl) d_X_bend_2 rfl rfl ?_
  refine x_astore_n 6 hB d_X_bend_5 rfl (by decide) (lv' := [(3, .ref h0), (0, .ref hx), (1, .int (nI 0)), (2, .int (k))]) rfl ?_
  refine x_aload_n 7 hB d_X_bend_6 rfl rfl ?_
  refine x_iload_n 8 hB d_X_bend_7 rfl rfl ?_
  refine x_callP (k' := 0) (n' := 0) (rest := []) (st' := [.int (nI 0)]) 11 hB (x_pfV (av := [.int (k)]) (q0 := 1) hB w_177 xHd_code w_501 w_175 w_176 rfl rfl nm_L_has rfl d_X_bend_8) (c_L_has_out l E h0 a0 n p k hk) w_177 xHd_code w_2 [1] rfl rfl ⟨by decide, by decide⟩ ⟨by decide, by decide⟩ rfl rfl (Nat.le_of_ble_eq_true rfl) d_X_bend_8 rfl rfl ?_
  refine x_if_ne 24 14 hB d_X_bend_11 (by decide) rfl (fun hc => absurd (by decide) hc) (fun _ => ?_)
  exact x_throw hT hB ["java/lang/RuntimeException", "java/lang/Exception"] w_502 w_503 w_16 w_511 tw_X_110 (by decide) (by decide) (by decide) (by decide) ⟨by decide, by decide⟩ (by decide) (by decide) (by decide) d_X_bend_14 d_X_bend_17 d_X_bend_18 d_X_bend_20 d_X_bend_23
abbrev rm_X_lose0 : Room := { frames := 2, cells := 0, slots := 0, locals := 84 }
set_option maxHeartbeats 4000000 in
set_option maxRecDepth 100000 in
theorem c_X_lose0 (l : Launch) (E : xE) (hx h0 h1 ht hw hz : Nat) (sp : Bool) (a0 n p : Nat) (f : Nat → Int32) (j q : Nat) (hj : j < n) (hpj : p ≤ j) (hn : n ≤ 2640) (hq : 0 < q) (hq2 : q < 2147483648) (hb : ∀ i, i < n → f i = 0 ∨ f i = 1) : xC l E y_X_lose (.code y_X_lose prog_1_method_11_code 5 (some .int)) rm_X_lose0 [.ref hx, .int (nI 0), .int (nI (j)), .int (nI (q))] [(hx, .inr (4, [.ref h0, .ref h1, .ref ht, .ref hw, .ref hz, .int (bI sp)])), (h0, .inr (0, [.ref a0, .int (nI (n)), .int (nI (p))])), (a0, .inl (E.2 0, 2640, .inl (f)))] (xRet (some (.int (nI (min q (n - j))))) [(hx, .inr (4, [.ref h0, .ref h1, .ref ht, .ref hw, .ref hz, .int (bI sp)])), (h0, .inr (0, [.ref a0, .int (nI (n - min q (n - j))), .int (nI (p))])), (a0, .inl (E.2 0, 2640, .inl (va_cpy f f (j + min q (n - j)) j (n - (j + min q (n - j))))))]) := by
  refine x_of' (own := "LineCoder") (mn := "lose") (lv := [(0, .ref hx), (1, .int (nI 0)), (2, .int (nI (j))), (3, .int (nI (q)))]) (plainFor_of_name (by decide)) rfl rfl (Nat.le_of_ble_eq_true rfl) rfl ?_
  intro p_ e_ s_ m_ ar_ be_ me_ c_ A_ hA hB
  refine x_aload_n 1 hB d_X_lose_0 rfl rfl ?_
  refine x_iload_n 2 hB d_X_lose_1 rfl rfl ?_
  refine x_callP (k' := 0) (n' := 0) (rest := []) (st' := [.ref h0]) 5 hB (x_pfV (av := [.int (nI 0)]) (q0 := 0) hB w_490 xHd_code w_487 w_489 s_X_lineOf rfl rfl nm_X_lineOf rfl d_X_lose_2) (c_X_lineOf_0 l E hx h0 h1 ht hw hz sp) w_490 xHd_code w_1 [0] rfl rfl ⟨by decide, by decide⟩ ⟨by decide, by decide⟩ rfl rfl (Nat.le_of_ble_eq_true rfl) d_X_lose_2 rfl rfl ?_
  refine x_astore 7 hB d_X_lose_5 rfl (by decide) (lv' := [(4, .ref h0), (0, .ref hx), (1, .int (nI 0)), (2, .int (nI (j))), (3, .int (nI (q)))]) rfl ?_
  refine x_iload_n 8 hB d_X_lose_7 rfl rfl ?_
  refine x_if_ge 21 11 hB d_X_lose_8 (by decide) rfl (fun _ => ?_) (fun hc => absurd (nI_pos' hq2) hc)
  refine x_iload_n 22 hB d_X_lose_21 rfl rfl ?_
  refine x_aload 24 hB d_X_lose_22 rfl rfl ?_
  refine x_callP (k' := 0) (n' := 0) (rest := [.int (nI (j))]) (st' := [.int (nI (p)), .int (nI (j))]) 27 hB (x_pfV (av := []) (q0 := 1) hB w_534 xHd_code w_531 w_532 w_533 rfl rfl nm_L_place rfl d_X_lose_24) (c_L_place l E h0 a0 n p) w_534 xHd_code w_2 [1] rfl rfl ⟨by decide, by decide⟩ ⟨by decide, by decide⟩ rfl rfl (Nat.le_of_ble_eq_true rfl) d_X_lose_24 rfl rfl ?_
  refine x_icmp_ge 40 30 hB d_X_lose_27 (by decide) rfl (fun _ => ?_) (fun hc => absurd (nI_le hpj (by omega)) hc)
  refine x_aload 42 hB d_X_lose_40 rfl rfl ?_
  refine x_iload_n 43 hB d_X_lose_42 rfl rfl ?_
  refine x_iload_n 44 hB d_X_lose_43 rfl rfl ?_
  refine x_callD (k' := 0) (n' := 0) (rest := []) (wr := [(hx, .inr (4, [.ref h0, .ref h1, .ref ht, .ref hw, .ref hz, .int (bI sp)]))]) (ws' := [(hx, .inr (4, [.ref h0, .ref h1, .ref ht, .ref hw, .ref hz, .int (bI sp)])), (h0, .inr (0, [.ref a0, .int (nI (n - min q (n - j))), .int (nI (p))])), (a0, .inl (E.2 0, 2640, .inl (va_cpy f f (j + min q (n - j)) j (n - (j + min q (n - j))))))]) (st' := [.int (nI (min q (n - j)))]) 47 hB (x_pfV (av := [.int (nI (j)), .int (nI (q))]) (q0 := 1) hB w_539 xHd_code w_536 w_537 w_538 rfl rfl nm_L_remove rfl d_X_lose_44) (c_L_remove l E h0 a0 n p f j q hj hn hq hq2 hb) w_539 xHd_code w_2 [1, 2] [0] rfl rfl rfl rfl (by decide) ⟨by decide, by decide⟩ ⟨by decide, by decide⟩ rfl rfl (Nat.le_of_ble_eq_true rfl) d_X_lose_44 rfl rfl rfl ?_
  exact x_iret hB (w' := [(hx, .inr (4, [.ref h0, .ref h1, .ref ht, .ref hw, .ref hz, .int (bI sp)])), (h0, .inr (0, [.ref a0, .int (nI (n - min q (n - j))), .int (nI (p))])), (a0, .inl (E.2 0, 2640, .inl (va_cpy f f (j + min q (n - j)) j (n - (j + min q (n - j))))))]) hA [0, 1, 2] rfl rfl (xRet_i) (by decide) (by decide) d_X_lose_47
abbrev rm_X_lose0_z : Room := { frames := 2, cells := 0, slots := 0, locals := 45 }
set_option maxHeartbeats 4000000 in
set_option maxRecDepth 100000 in
theorem c_X_lose0_z (l : Launch) (E : xE) (hx h0 h1 ht hw hz : Nat) (sp : Bool) (a0 n p : Nat) (f : Nat → Int32) (j : Nat) (hj : j < n) (hpj : p ≤ j) (hn : n ≤ 2640) : xCp l E y_X_lose (.code y_X_lose prog_1_method_11_code 5 (some .int)) rm_X_lose0_z [.ref hx, .int (nI 0), .int (nI (j)), .int (nI (0))] [(hx, .inr (4, [.ref h0, .ref h1, .ref ht, .ref hw, .ref hz, .int (bI sp)])), (h0, .inr (0, [.ref a0, .int (nI (n)), .int (nI (p))])), (a0, .inl (E.2 0, 2640, .inl (f)))] (.inl (some (.int (nI 0)))) := by
  refine x_ofP (own := "LineCoder") (mn := "lose") (lv := [(0, .ref hx), (1, .int (nI 0)), (2, .int (nI (j))), (3, .int (nI (0)))]) (plainFor_of_name (by decide)) rfl rfl (Nat.le_of_ble_eq_true rfl) rfl ?_
  intro p_ e_ s_ m_ ar_ be_ me_ c_ hB
  refine x_aload_n 1 hB d_X_lose_0 rfl rfl ?_
  refine x_iload_n 2 hB d_X_lose_1 rfl rfl ?_
  refine x_callP (k' := 0) (n' := 0) (rest := []) (st' := [.ref h0]) 5 hB (x_pfV (av := [.int (nI 0)]) (q0 := 0) hB w_490 xHd_code w_487 w_489 s_X_lineOf rfl rfl nm_X_lineOf rfl d_X_lose_2) (c_X_lineOf_0 l E hx h0 h1 ht hw hz sp) w_490 xHd_code w_1 [0] rfl rfl ⟨by decide, by decide⟩ ⟨by decide, by decide⟩ rfl rfl (Nat.le_of_ble_eq_true rfl) d_X_lose_2 rfl rfl ?_
  refine x_astore 7 hB d_X_lose_5 rfl (by decide) (lv' := [(4, .ref h0), (0, .ref hx), (1, .int (nI 0)), (2, .int (nI (j))), (3, .int (nI (0)))]) rfl ?_
  refine x_iload_n 8 hB d_X_lose_7 rfl rfl ?_
  refine x_if_ge 21 11 hB d_X_lose_8 (by decide) rfl (fun _ => ?_) (fun hc => absurd (by decide) hc)
  refine x_iload_n 22 hB d_X_lose_21 rfl rfl ?_
  refine x_aload 24 hB d_X_lose_22 rfl rfl ?_
  refine x_callP (k' := 0) (n' := 0) (rest := [.int (nI (j))]) (st' := [.int (nI (p)), .int (nI (j))]) 27 hB (x_pfV (av := []) (q0 := 1) hB w_534 xHd_code w_531 w_532 w_533 rfl rfl nm_L_place rfl d_X_lose_24) (c_L_place l E h0 a0 n p) w_534 xHd_code w_2 [1] rfl rfl ⟨by decide, by decide⟩ ⟨by decide, by decide⟩ rfl rfl (Nat.le_of_ble_eq_true rfl) d_X_lose_24 rfl rfl ?_
  refine x_icmp_ge 40 30 hB d_X_lose_27 (by decide) rfl (fun _ => ?_) (fun hc => absurd (nI_le hpj (by omega)) hc)
  refine x_aload 42 hB d_X_lose_40 rfl rfl ?_
  refine x_iload_n 43 hB d_X_lose_42 rfl rfl ?_
  refine x_iload_n 44 hB d_X_lose_43 rfl rfl ?_
  refine x_callP (k' := 0) (n' := 0) (rest := []) (st' := [.int (nI 0)]) 47 hB (x_pfV (av := [.int (nI (j)), .int (nI (0))]) (q0 := 1) hB w_539 xHd_code w_536 w_537 w_538 rfl rfl nm_L_remove rfl d_X_lose_44) (c_L_remove_z l E h0 a0 n p f j hj hn) w_539 xHd_code w_2 [1, 2] rfl rfl ⟨by decide, by decide⟩ ⟨by decide, by decide⟩ rfl rfl (Nat.le_of_ble_eq_true rfl) d_X_lose_44 rfl rfl ?_
  exact x_iretP hB (rfl) (by decide) (by decide) d_X_lose_47
abbrev rm_X_lose0_o : Room := { frames := 2, cells := 0, slots := 0, locals := 45 }
set_option maxHeartbeats 4000000 in
set_option maxRecDepth 100000 in
theorem c_X_lose0_o (l : Launch) (E : xE) (hx h0 h1 ht hw hz : Nat) (sp : Bool) (a0 n p : Nat) (f : Nat → Int32) (k z : Int32) (hz9 : 0 ≤ z) (hk : nI n ≤ k) (hpk : nI p ≤ k) : xCp l E y_X_lose (.code y_X_lose prog_1_method_11_code 5 (some .int)) rm_X_lose0_o [.ref hx, .int (nI 0), .int (k), .int (z)] [(hx, .inr (4, [.ref h0, .ref h1, .ref ht, .ref hw, .ref hz, .int (bI sp)])), (h0, .inr (0, [.ref a0, .int (nI (n)), .int (nI (p))])), (a0, .inl (E.2 0, 2640, .inl (f)))] (.inl (some (.int (nI 0)))) := by
  refine x_ofP (own := "LineCoder") (mn := "lose") (lv := [(0, .ref hx), (1, .int (nI 0)), (2, .int (k)), (3, .int (z))]) (plainFor_of_name (by decide)) rfl rfl (Nat.le_of_ble_eq_true rfl) rfl ?_
  intro p_ e_ s_ m_ ar_ be_ me_ c_ hB
  refine x_aload_n 1 hB d_X_lose_0 rfl rfl ?_
  refine x_iload_n 2 hB d_X_lose_1 rfl rfl ?_
  refine x_callP (k' := 0) (n' := 0) (rest := []) (st' := [.ref h0]) 5 hB (x_pfV (av := [.int (nI 0)]) (q0 := 0) hB w_490 xHd_code w_487 w_489 s_X_lineOf rfl rfl nm_X_lineOf rfl d_X_lose_2) (c_X_lineOf_0 l E hx h0 h1 ht hw hz sp) w_490 xHd_code w_1 [0] rfl rfl ⟨by decide, by decide⟩ ⟨by decide, by decide⟩ rfl rfl (Nat.le_of_ble_eq_true rfl) d_X_lose_2 rfl rfl ?_
  refine x_astore 7 hB d_X_lose_5 rfl (by decide) (lv' := [(4, .ref h0), (0, .ref hx), (1, .int (nI 0)), (2, .int (k)), (3, .int (z))]) rfl ?_
  refine x_iload_n 8 hB d_X_lose_7 rfl rfl ?_
  refine x_if_ge 21 11 hB d_X_lose_8 (by decide) rfl (fun _ => ?_) (fun hc => absurd (hz9) hc)
  refine x_iload_n 22 hB d_X_lose_21 rfl rfl ?_
  refine x_aload 24 hB d_X_lose_22 rfl rfl ?_
  refine x_callP (k' := 0) (n' := 0) (rest := [.int (k)]) (st' := [.int (nI (p)), .int (k)]) 27 hB (x_pfV (av := []) (q0 := 1) hB w_534 xHd_code w_531 w_532 w_533 rfl rfl nm_L_place rfl d_X_lose_24) (c_L_place l E h0 a0 n p) w_534 xHd_code w_2 [1] rfl rfl ⟨by decide, by decide⟩ ⟨by decide, by decide⟩ rfl rfl (Nat.le_of_ble_eq_true rfl) d_X_lose_24 rfl rfl ?_
  refine x_icmp_ge 40 30 hB d_X_lose_27 (by decide) rfl (fun _ => ?_) (fun hc => absurd (hpk) hc)
  refine x_aload 42 hB d_X_lose_40 rfl rfl ?_
  refine x_iload_n 43 hB d_X_lose_42 rfl rfl ?_
  refine x_iload_n 44 hB d_X_lose_43 rfl rfl ?_
  refine x_callP (k' := 0) (n' := 0) (rest := []) (st' := [.int (nI 0)]) 47 hB (x_pfV (av := [.int (k), .int (z)]) (q0 := 1) hB w_539 xHd_code w_536 w_537 w_538 rfl rfl nm_L_remove rfl d_X_lose_44) (c_L_remove_out l E h0 a0 n p f k z (Or.inr hk)) w_539 xHd_code w_2 [1, 2] rfl rfl ⟨by decide, by decide⟩ ⟨by decide, by decide⟩ rfl rfl (Nat.le_of_ble_eq_true rfl) d_X_lose_44 rfl rfl ?_
  exact x_iretP hB (rfl) (by decide) (by decide) d_X_lose_47
abbrev rm_X_lose0_m : Room := { frames := 6, cells := 1, slots := 6, locals := 83 }
set_option maxHeartbeats 4000000 in
set_option maxRecDepth 100000 in
theorem c_X_lose0_m (l : Launch) (E : xE) (hT : xNoTr l) (hx h0 h1 ht hw hz : Nat) (sp : Bool) (k z : Int32) (hz9 : ¬ 0 ≤ z) : xCp l E y_X_lose (.code y_X_lose prog_1_method_11_code 5 (some .int)) rm_X_lose0_m [.ref hx, .int (nI 0), .int (k), .int (z)] [(hx, .inr (4, [.ref h0, .ref h1, .ref ht, .ref hw, .ref hz, .int (bI sp)]))] (.inr "java/lang/IllegalArgumentException") := by
  refine x_ofP (own := "LineCoder") (mn := "lose") (lv := [(0, .ref hx), (1, .int (nI 0)), (2, .int (k)), (3, .int (z))]) (plainFor_of_name (by decide)) rfl rfl (Nat.le_of_ble_eq_true rfl) rfl ?_
  intro p_ e_ s_ m_ ar_ be_ me_ c_ hB
  refine x_aload_n 1 hB d_X_lose_0 rfl rfl ?_
  refine x_iload_n 2 hB d_X_lose_1 rfl rfl ?_
  refine x_callP (k' := 0) (n' := 0) (rest := []) (st' := [.ref h0]) 5 hB (x_pfV (av := [.int (nI 0)]) (q0 := 0) hB w_490 xHd_code w_487 w_489 s_X_lineOf rfl rfl nm_X_lineOf rfl d_X_lose_2) (c_X_lineOf_0 l E hx h0 h1 ht hw hz sp) w_490 xHd_code w_1 [0] rfl rfl ⟨by decide, by decide⟩ ⟨by decide, by decide⟩ rfl rfl (Nat.le_of_ble_eq_true rfl) d_X_lose_2 rfl rfl ?_
  refine x_astore 7 hB d_X_lose_5 rfl (by decide) (lv' := [(4, .ref h0), (0, .ref hx), (1, .int (nI 0)), (2, .int (k)), (3, .int (z))]) rfl ?_
  refine x_iload_n 8 hB d_X_lose_7 rfl rfl ?_
  refine x_if_ge 21 11 hB d_X_lose_8 (by decide) rfl (fun hc => absurd hc (hz9)) (fun _ => ?_)
  exact x_throw hT hB ["java/lang/RuntimeException", "java/lang/Exception"] w_352 w_353 w_12 w_530 tw_X_60 (by decide) (by decide) (by decide) (by decide) ⟨by decide, by decide⟩ (by decide) (by decide) (by decide) d_X_lose_11 d_X_lose_14 d_X_lose_15 d_X_lose_17 d_X_lose_20
abbrev rm_X_lose0_p : Room := { frames := 6, cells := 1, slots := 6, locals := 83 }
set_option maxHeartbeats 4000000 in
set_option maxRecDepth 100000 in
theorem c_X_lose0_p (l : Launch) (E : xE) (hT : xNoTr l) (hx h0 h1 ht hw hz : Nat) (sp : Bool) (a0 n p : Nat) (k z : Int32) (hz9 : 0 ≤ z) (hpk : ¬ nI p ≤ k) : xCp l E y_X_lose (.code y_X_lose prog_1_method_11_code 5 (some .int)) rm_X_lose0_p [.ref hx, .int (nI 0), .int (k), .int (z)] [(hx, .inr (4, [.ref h0, .ref h1, .ref ht, .ref hw, .ref hz, .int (bI sp)])), (h0, .inr (0, [.ref a0, .int (nI (n)), .int (nI (p))]))] (.inr "java/lang/IllegalArgumentException") := by
  refine x_ofP (own := "LineCoder") (mn := "lose") (lv := [(0, .ref hx), (1, .int (nI 0)), (2, .int (k)), (3, .int (z))]) (plainFor_of_name (by decide)) rfl rfl (Nat.le_of_ble_eq_true rfl) rfl ?_
  intro p_ e_ s_ m_ ar_ be_ me_ c_ hB
  refine x_aload_n 1 hB d_X_lose_0 rfl rfl ?_
  refine x_iload_n 2 hB d_X_lose_1 rfl rfl ?_
  refine x_callP (k' := 0) (n' := 0) (rest := []) (st' := [.ref h0]) 5 hB (x_pfV (av := [.int (nI 0)]) (q0 := 0) hB w_490 xHd_code w_487 w_489 s_X_lineOf rfl rfl nm_X_lineOf rfl d_X_lose_2) (c_X_lineOf_0 l E hx h0 h1 ht hw hz sp) w_490 xHd_code w_1 [0] rfl rfl ⟨by decide, by decide⟩ ⟨by decide, by decide⟩ rfl rfl (Nat.le_of_ble_eq_true rfl) d_X_lose_2 rfl rfl ?_
  refine x_astore 7 hB d_X_lose_5 rfl (by decide) (lv' := [(4, .ref h0), (0, .ref hx), (1, .int (nI 0)), (2, .int (k)), (3, .int (z))]) rfl ?_
  refine x_iload_n 8 hB d_X_lose_7 rfl rfl ?_
  refine x_if_ge 21 11 hB d_X_lose_8 (by decide) rfl (fun _ => ?_) (fun hc => absurd (hz9) hc)
  refine x_iload_n 22 hB d_X_lose_21 rfl rfl ?_
  refine x_aload 24 hB d_X_lose_22 rfl rfl ?_
  refine x_callP (k' := 0) (n' := 0) (rest := [.int (k)]) (st' := [.int (nI (p)), .int (k)]) 27 hB (x_pfV (av := []) (q0 := 1) hB w_534 xHd_code w_531 w_532 w_533 rfl rfl nm_L_place rfl d_X_lose_24) (c_L_place l E h0 a0 n p) w_534 xHd_code w_2 [1] rfl rfl ⟨by decide, by decide⟩ ⟨by decide, by decide⟩ rfl rfl (Nat.le_of_ble_eq_true rfl) d_X_lose_24 rfl rfl ?_
  refine x_icmp_ge 40 30 hB d_X_lose_27 (by decide) rfl (fun hc => absurd hc (hpk)) (fun _ => ?_)
  exact x_throw hT hB ["java/lang/RuntimeException", "java/lang/Exception"] w_352 w_353 w_12 w_535 tw_X_60 (by decide) (by decide) (by decide) (by decide) ⟨by decide, by decide⟩ (by decide) (by decide) (by decide) d_X_lose_30 d_X_lose_33 d_X_lose_34 d_X_lose_36 d_X_lose_39
abbrev rm_X_bit0 : Room := { frames := 2, cells := 0, slots := 0, locals := 42 }
set_option maxHeartbeats 4000000 in
set_option maxRecDepth 100000 in
theorem c_X_bit0 (l : Launch) (E : xE) (hx h0 h1 ht hw hz : Nat) (sp : Bool) (a0 n p : Nat) (f : Nat → Int32) (j : Nat) (hj : j < n) (hn : n ≤ 2640) : xCp l E y_X_bit (.code y_X_bit prog_1_method_12_code 3 (some .int)) rm_X_bit0 [.ref hx, .int (nI 0), .int (nI (j))] [(hx, .inr (4, [.ref h0, .ref h1, .ref ht, .ref hw, .ref hz, .int (bI sp)])), (h0, .inr (0, [.ref a0, .int (nI (n)), .int (nI (p))])), (a0, .inl (E.2 0, 2640, .inl (f)))] (.inl (some (.int ((f) (j))))) := by
  refine x_ofP (own := "LineCoder") (mn := "bit") (lv := [(0, .ref hx), (1, .int (nI 0)), (2, .int (nI (j)))]) (plainFor_of_name (by decide)) rfl rfl (Nat.le_of_ble_eq_true rfl) rfl ?_
  intro p_ e_ s_ m_ ar_ be_ me_ c_ hB
  refine x_aload_n 1 hB d_X_bit_0 rfl rfl ?_
  refine x_iload_n 2 hB d_X_bit_1 rfl rfl ?_
  refine x_callP (k' := 0) (n' := 0) (rest := []) (st' := [.ref h0]) 5 hB (x_pfV (av := [.int (nI 0)]) (q0 := 0) hB w_490 xHd_code w_487 w_489 s_X_lineOf rfl rfl nm_X_lineOf rfl d_X_bit_2) (c_X_lineOf_0 l E hx h0 h1 ht hw hz sp) w_490 xHd_code w_1 [0] rfl rfl ⟨by decide, by decide⟩ ⟨by decide, by decide⟩ rfl rfl (Nat.le_of_ble_eq_true rfl) d_X_bit_2 rfl rfl ?_
  refine x_iload_n 6 hB d_X_bit_5 rfl rfl ?_
  refine x_callP (k' := 0) (n' := 0) (rest := []) (st' := [.int ((f) (j))]) 9 hB (x_pfV (av := [.int (nI (j))]) (q0 := 1) hB w_173 xHd_code w_522 w_171 w_172 rfl rfl nm_L_at rfl d_X_bit_6) (c_L_at_in l E h0 a0 n p f j hj hn) w_173 xHd_code w_2 [1, 2] rfl rfl ⟨by decide, by decide⟩ ⟨by decide, by decide⟩ rfl rfl (Nat.le_of_ble_eq_true rfl) d_X_bit_6 rfl rfl ?_
  exact x_iretP hB (rfl) (by decide) (by decide) d_X_bit_9
abbrev rm_X_bit0_o : Room := { frames := 2, cells := 0, slots := 0, locals := 42 }
set_option maxHeartbeats 4000000 in
set_option maxRecDepth 100000 in
theorem c_X_bit0_o (l : Launch) (E : xE) (hx h0 h1 ht hw hz : Nat) (sp : Bool) (a0 n p : Nat) (f : Nat → Int32) (k : Int32) (hk : k < 0 ∨ nI n ≤ k) : xCp l E y_X_bit (.code y_X_bit prog_1_method_12_code 3 (some .int)) rm_X_bit0_o [.ref hx, .int (nI 0), .int (k)] [(hx, .inr (4, [.ref h0, .ref h1, .ref ht, .ref hw, .ref hz, .int (bI sp)])), (h0, .inr (0, [.ref a0, .int (nI (n)), .int (nI (p))])), (a0, .inl (E.2 0, 2640, .inl (f)))] (.inl (some (.int (-1)))) := by
  refine x_ofP (own := "LineCoder") (mn := "bit") (lv := [(0, .ref hx), (1, .int (nI 0)), (2, .int (k))]) (plainFor_of_name (by decide)) rfl rfl (Nat.le_of_ble_eq_true rfl) rfl ?_
  intro p_ e_ s_ m_ ar_ be_ me_ c_ hB
  refine x_aload_n 1 hB d_X_bit_0 rfl rfl ?_
  refine x_iload_n 2 hB d_X_bit_1 rfl rfl ?_
  refine x_callP (k' := 0) (n' := 0) (rest := []) (st' := [.ref h0]) 5 hB (x_pfV (av := [.int (nI 0)]) (q0 := 0) hB w_490 xHd_code w_487 w_489 s_X_lineOf rfl rfl nm_X_lineOf rfl d_X_bit_2) (c_X_lineOf_0 l E hx h0 h1 ht hw hz sp) w_490 xHd_code w_1 [0] rfl rfl ⟨by decide, by decide⟩ ⟨by decide, by decide⟩ rfl rfl (Nat.le_of_ble_eq_true rfl) d_X_bit_2 rfl rfl ?_
  refine x_iload_n 6 hB d_X_bit_5 rfl rfl ?_
  refine x_callP (k' := 0) (n' := 0) (rest := []) (st' := [.int (-1)]) 9 hB (x_pfV (av := [.int (k)]) (q0 := 1) hB w_173 xHd_code w_522 w_171 w_172 rfl rfl nm_L_at rfl d_X_bit_6) (c_L_at_out l E h0 a0 n p f k hk) w_173 xHd_code w_2 [1, 2] rfl rfl ⟨by decide, by decide⟩ ⟨by decide, by decide⟩ rfl rfl (Nat.le_of_ble_eq_true rfl) d_X_bit_6 rfl rfl ?_
  exact x_iretP hB (rfl) (by decide) (by decide) d_X_bit_9
abbrev rm_X_count0_0 : Room := { frames := 1, cells := 0, slots := 0, locals := 21 }
set_option maxHeartbeats 4000000 in
set_option maxRecDepth 100000 in
theorem c_X_count0_0 (l : Launch) (E : xE) (hx h0 h1 ht hw hz : Nat) (sp : Bool) (a0 n p : Nat) (f : Nat → Int32) (fo plus first : Bool) (sl bd wr mk rw : Nat) (hn : n ≤ 2640) : xCp l E y_X_count (.code y_X_count prog_1_method_13_code 5 (some .int)) rm_X_count0_0 [.ref hx, .int (nI 0), .int (nI 0)] [(hx, .inr (4, [.ref h0, .ref h1, .ref ht, .ref hw, .ref hz, .int (bI sp)])), (h0, .inr (0, [.ref a0, .int (nI (n)), .int (nI (p))])), (a0, .inl (E.2 0, 2640, .inl (f))), (ht, .inr (2, [.ref h0, .int (bI fo), .int (nI (sl)), .int (nI (bd)), .int (nI (wr)), .int (bI plus), .int (bI first), .int (nI (mk)), .int (nI (rw))]))] (.inl (some (.int (nI (n))))) := by
  refine x_ofP (own := "LineCoder") (mn := "count") (lv := [(0, .ref hx), (1, .int (nI 0)), (2, .int (nI 0))]) (plainFor_of_name (by decide)) rfl rfl (Nat.le_of_ble_eq_true rfl) rfl ?_
  intro p_ e_ s_ m_ ar_ be_ me_ c_ hB
  refine x_aload_n 1 hB d_X_count_0 rfl rfl ?_
  refine x_iload_n 2 hB d_X_count_1 rfl rfl ?_
  refine x_callP (k' := 0) (n' := 0) (rest := []) (st' := [.ref h0]) 5 hB (x_pfV (av := [.int (nI 0)]) (q0 := 0) hB w_490 xHd_code w_487 w_489 s_X_lineOf rfl rfl nm_X_lineOf rfl d_X_count_2) (c_X_lineOf_0 l E hx h0 h1 ht hw hz sp) w_490 xHd_code w_1 [0] rfl rfl ⟨by decide, by decide⟩ ⟨by decide, by decide⟩ rfl rfl (Nat.le_of_ble_eq_true rfl) d_X_count_2 rfl rfl ?_
  refine x_astore_n 6 hB d_X_count_5 rfl (by decide) (lv' := [(3, .ref h0), (0, .ref hx), (1, .int (nI 0)), (2, .int (nI 0))]) rfl ?_
  refine x_iload_n 7 hB d_X_count_6 rfl rfl ?_
  refine x_if_ne 17 10 hB d_X_count_7 (by decide) rfl (fun hc => absurd (by decide) hc) (fun _ => ?_)
  refine x_aload_n 11 hB d_X_count_10 rfl rfl ?_
  refine x_get 14 hB 0 fg_X_24_4 rfl rfl d_X_count_11 rfl ?_
  refine x_goto 21 hB d_X_count_14 (by decide) ?_
  refine x_astore 23 hB d_X_count_21 rfl (by decide) (lv' := [(4, .ref ht), (3, .ref h0), (0, .ref hx), (1, .int (nI 0)), (2, .int (nI 0))]) rfl ?_
  refine x_iload_n 24 hB d_X_count_23 rfl rfl ?_
  refine x_tabIn 76 hB d_X_count_24 (by decide) (by decide) (off := 52) (by decide) (by decide) ?_
  refine x_aload_n 77 hB d_X_count_76 rfl rfl ?_
  refine x_callP (k' := 0) (n' := 0) (rest := []) (st' := [.int (nI (n))]) 80 hB (x_pfV (av := []) (q0 := 1) hB w_479 xHd_code w_476 w_477 w_478 rfl rfl nm_L_size rfl d_X_count_77) (c_L_size l E h0 a0 n p) w_479 xHd_code w_2 [1] rfl rfl ⟨by decide, by decide⟩ ⟨by decide, by decide⟩ rfl rfl (Nat.le_of_ble_eq_true rfl) d_X_count_77 rfl rfl ?_
  exact x_iretP hB (rfl) (by decide) (by decide) d_X_count_80
abbrev rm_X_count0_1 : Room := { frames := 1, cells := 0, slots := 0, locals := 21 }
set_option maxHeartbeats 4000000 in
set_option maxRecDepth 100000 in
theorem c_X_count0_1 (l : Launch) (E : xE) (hx h0 h1 ht hw hz : Nat) (sp : Bool) (a0 n p : Nat) (f : Nat → Int32) (fo plus first : Bool) (sl bd wr mk rw : Nat) (hn : n ≤ 2640) : xCp l E y_X_count (.code y_X_count prog_1_method_13_code 5 (some .int)) rm_X_count0_1 [.ref hx, .int (nI 0), .int (nI 1)] [(hx, .inr (4, [.ref h0, .ref h1, .ref ht, .ref hw, .ref hz, .int (bI sp)])), (h0, .inr (0, [.ref a0, .int (nI (n)), .int (nI (p))])), (a0, .inl (E.2 0, 2640, .inl (f))), (ht, .inr (2, [.ref h0, .int (bI fo), .int (nI (sl)), .int (nI (bd)), .int (nI (wr)), .int (bI plus), .int (bI first), .int (nI (mk)), .int (nI (rw))]))] (.inl (some (.int (nI (p))))) := by
  refine x_ofP (own := "LineCoder") (mn := "count") (lv := [(0, .ref hx), (1, .int (nI 0)), (2, .int (nI 1))]) (plainFor_of_name (by decide)) rfl rfl (Nat.le_of_ble_eq_true rfl) rfl ?_
  intro p_ e_ s_ m_ ar_ be_ me_ c_ hB
  refine x_aload_n 1 hB d_X_count_0 rfl rfl ?_
  refine x_iload_n 2 hB d_X_count_1 rfl rfl ?_
  refine x_callP (k' := 0) (n' := 0) (rest := []) (st' := [.ref h0]) 5 hB (x_pfV (av := [.int (nI 0)]) (q0 := 0) hB w_490 xHd_code w_487 w_489 s_X_lineOf rfl rfl nm_X_lineOf rfl d_X_count_2) (c_X_lineOf_0 l E hx h0 h1 ht hw hz sp) w_490 xHd_code w_1 [0] rfl rfl ⟨by decide, by decide⟩ ⟨by decide, by decide⟩ rfl rfl (Nat.le_of_ble_eq_true rfl) d_X_count_2 rfl rfl ?_
  refine x_astore_n 6 hB d_X_count_5 rfl (by decide) (lv' := [(3, .ref h0), (0, .ref hx), (1, .int (nI 0)), (2, .int (nI 1))]) rfl ?_
  refine x_iload_n 7 hB d_X_count_6 rfl rfl ?_
  refine x_if_ne 17 10 hB d_X_count_7 (by decide) rfl (fun hc => absurd (by decide) hc) (fun _ => ?_)
  refine x_aload_n 11 hB d_X_count_10 rfl rfl ?_
  refine x_get 14 hB 0 fg_X_24_4 rfl rfl d_X_count_11 rfl ?_
  refine x_goto 21 hB d_X_count_14 (by decide) ?_
  refine x_astore 23 hB d_X_count_21 rfl (by decide) (lv' := [(4, .ref ht), (3, .ref h0), (0, .ref hx), (1, .int (nI 0)), (2, .int (nI 1))]) rfl ?_
  refine x_iload_n 24 hB d_X_count_23 rfl rfl ?_
  refine x_tabIn 81 hB d_X_count_24 (by decide) (by decide) (off := 57) (by decide) (by decide) ?_
  refine x_aload_n 82 hB d_X_count_81 rfl rfl ?_
  refine x_callP (k' := 0) (n' := 0) (rest := []) (st' := [.int (nI (p))]) 85 hB (x_pfV (av := []) (q0 := 1) hB w_534 xHd_code w_531 w_532 w_533 rfl rfl nm_L_place rfl d_X_count_82) (c_L_place l E h0 a0 n p) w_534 xHd_code w_2 [1] rfl rfl ⟨by decide, by decide⟩ ⟨by decide, by decide⟩ rfl rfl (Nat.le_of_ble_eq_true rfl) d_X_count_82 rfl rfl ?_
  exact x_iretP hB (rfl) (by decide) (by decide) d_X_count_85
abbrev rm_X_count0_2 : Room := { frames := 1, cells := 0, slots := 0, locals := 21 }
set_option maxHeartbeats 4000000 in
set_option maxRecDepth 100000 in
theorem c_X_count0_2 (l : Launch) (E : xE) (hx h0 h1 ht hw hz : Nat) (sp : Bool) (a0 n p : Nat) (f : Nat → Int32) (fo plus first : Bool) (sl bd wr mk rw : Nat) (hn : n ≤ 2640) : xCp l E y_X_count (.code y_X_count prog_1_method_13_code 5 (some .int)) rm_X_count0_2 [.ref hx, .int (nI 0), .int (nI 2)] [(hx, .inr (4, [.ref h0, .ref h1, .ref ht, .ref hw, .ref hz, .int (bI sp)])), (h0, .inr (0, [.ref a0, .int (nI (n)), .int (nI (p))])), (a0, .inl (E.2 0, 2640, .inl (f))), (ht, .inr (2, [.ref h0, .int (bI fo), .int (nI (sl)), .int (nI (bd)), .int (nI (wr)), .int (bI plus), .int (bI first), .int (nI (mk)), .int (nI (rw))]))] (.inl (some (.int (bI fo)))) := by
  refine x_ofP (own := "LineCoder") (mn := "count") (lv := [(0, .ref hx), (1, .int (nI 0)), (2, .int (nI 2))]) (plainFor_of_name (by decide)) rfl rfl (Nat.le_of_ble_eq_true rfl) rfl ?_
  intro p_ e_ s_ m_ ar_ be_ me_ c_ hB
  refine x_aload_n 1 hB d_X_count_0 rfl rfl ?_
  refine x_iload_n 2 hB d_X_count_1 rfl rfl ?_
  refine x_callP (k' := 0) (n' := 0) (rest := []) (st' := [.ref h0]) 5 hB (x_pfV (av := [.int (nI 0)]) (q0 := 0) hB w_490 xHd_code w_487 w_489 s_X_lineOf rfl rfl nm_X_lineOf rfl d_X_count_2) (c_X_lineOf_0 l E hx h0 h1 ht hw hz sp) w_490 xHd_code w_1 [0] rfl rfl ⟨by decide, by decide⟩ ⟨by decide, by decide⟩ rfl rfl (Nat.le_of_ble_eq_true rfl) d_X_count_2 rfl rfl ?_
  refine x_astore_n 6 hB d_X_count_5 rfl (by decide) (lv' := [(3, .ref h0), (0, .ref hx), (1, .int (nI 0)), (2, .int (nI 2))]) rfl ?_
  refine x_iload_n 7 hB d_X_count_6 rfl rfl ?_
  refine x_if_ne 17 10 hB d_X_count_7 (by decide) rfl (fun hc => absurd (by decide) hc) (fun _ => ?_)
  refine x_aload_n 11 hB d_X_count_10 rfl rfl ?_
  refine x_get 14 hB 0 fg_X_24_4 rfl rfl d_X_count_11 rfl ?_
  refine x_goto 21 hB d_X_count_14 (by decide) ?_
  refine x_astore 23 hB d_X_count_21 rfl (by decide) (lv' := [(4, .ref ht), (3, .ref h0), (0, .ref hx), (1, .int (nI 0)), (2, .int (nI 2))]) rfl ?_
  refine x_iload_n 24 hB d_X_count_23 rfl rfl ?_
  refine x_tabIn 86 hB d_X_count_24 (by decide) (by decide) (off := 62) (by decide) (by decide) ?_
  refine x_aload 88 hB d_X_count_86 rfl rfl ?_
  refine x_callP (k' := 0) (n' := 0) (rest := []) (st' := [.int (bI fo)]) 91 hB (x_pfU (av := []) (q0 := 3) (x := ⟨"LineCoder$Receiver", "isFollowing", "()Z"⟩) (owner := "LineCoder$Receiver") hB w_562 xHd_code w_557 w_559 (va_Decl.of (hB.qt _ w_558) (hB.qt _ w_562)) w_558 w_560 rfl rfl (by decide) ⟨⟨by decide +kernel, by decide +kernel⟩, by decide +kernel⟩ rfl d_X_count_88) (c_R_isFollowing_T l E ht h0 fo plus first sl bd wr mk rw) w_562 xHd_code w_3 [3] rfl rfl ⟨by decide, by decide⟩ ⟨by decide, by decide⟩ rfl rfl (Nat.le_of_ble_eq_true rfl) d_X_count_88 rfl rfl ?_
  refine x_if_eq 98 94 hB d_X_count_91 (by decide) rfl (fun h91 => ?_) (fun h91 => ?_)
  · skip
    have k91 : fo = false := bI_0 h91
    refine x_iconst (v := nI 0) 99 hB d_X_count_98 rfl (by decide) ?_
    exact x_iretP hB (sVe (bF0 k91)) (by decide) (by decide) d_X_count_99
  · skip
    have k91 : fo = true := bI_1 h91
    refine x_iconst (v := nI 1) 95 hB d_X_count_94 rfl (by decide) ?_
    refine x_goto 99 hB d_X_count_95 (by decide) ?_
    exact x_iretP hB (sVe (bT k91)) (by decide) (by decide) d_X_count_99
abbrev rm_X_count0_3 : Room := { frames := 1, cells := 0, slots := 0, locals := 21 }
set_option maxHeartbeats 4000000 in
set_option maxRecDepth 100000 in
theorem c_X_count0_3 (l : Launch) (E : xE) (hx h0 h1 ht hw hz : Nat) (sp : Bool) (a0 n p : Nat) (f : Nat → Int32) (fo plus first : Bool) (sl bd wr mk rw : Nat) (hn : n ≤ 2640) : xCp l E y_X_count (.code y_X_count prog_1_method_13_code 5 (some .int)) rm_X_count0_3 [.ref hx, .int (nI 0), .int (nI 3)] [(hx, .inr (4, [.ref h0, .ref h1, .ref ht, .ref hw, .ref hz, .int (bI sp)])), (h0, .inr (0, [.ref a0, .int (nI (n)), .int (nI (p))])), (a0, .inl (E.2 0, 2640, .inl (f))), (ht, .inr (2, [.ref h0, .int (bI fo), .int (nI (sl)), .int (nI (bd)), .int (nI (wr)), .int (bI plus), .int (bI first), .int (nI (mk)), .int (nI (rw))]))] (.inl (some (.int (nI (mk))))) := by
  refine x_ofP (own := "LineCoder") (mn := "count") (lv := [(0, .ref hx), (1, .int (nI 0)), (2, .int (nI 3))]) (plainFor_of_name (by decide)) rfl rfl (Nat.le_of_ble_eq_true rfl) rfl ?_
  intro p_ e_ s_ m_ ar_ be_ me_ c_ hB
  refine x_aload_n 1 hB d_X_count_0 rfl rfl ?_
  refine x_iload_n 2 hB d_X_count_1 rfl rfl ?_
  refine x_callP (k' := 0) (n' := 0) (rest := []) (st' := [.ref h0]) 5 hB (x_pfV (av := [.int (nI 0)]) (q0 := 0) hB w_490 xHd_code w_487 w_489 s_X_lineOf rfl rfl nm_X_lineOf rfl d_X_count_2) (c_X_lineOf_0 l E hx h0 h1 ht hw hz sp) w_490 xHd_code w_1 [0] rfl rfl ⟨by decide, by decide⟩ ⟨by decide, by decide⟩ rfl rfl (Nat.le_of_ble_eq_true rfl) d_X_count_2 rfl rfl ?_
  refine x_astore_n 6 hB d_X_count_5 rfl (by decide) (lv' := [(3, .ref h0), (0, .ref hx), (1, .int (nI 0)), (2, .int (nI 3))]) rfl ?_
  refine x_iload_n 7 hB d_X_count_6 rfl rfl ?_
  refine x_if_ne 17 10 hB d_X_count_7 (by decide) rfl (fun hc => absurd (by decide) hc) (fun _ => ?_)
  refine x_aload_n 11 hB d_X_count_10 rfl rfl ?_
  refine x_get 14 hB 0 fg_X_24_4 rfl rfl d_X_count_11 rfl ?_
  refine x_goto 21 hB d_X_count_14 (by decide) ?_
  refine x_astore 23 hB d_X_count_21 rfl (by decide) (lv' := [(4, .ref ht), (3, .ref h0), (0, .ref hx), (1, .int (nI 0)), (2, .int (nI 3))]) rfl ?_
  refine x_iload_n 24 hB d_X_count_23 rfl rfl ?_
  refine x_tabIn 100 hB d_X_count_24 (by decide) (by decide) (off := 76) (by decide) (by decide) ?_
  refine x_aload 102 hB d_X_count_100 rfl rfl ?_
  refine x_callP (k' := 0) (n' := 0) (rest := []) (st' := [.int (nI (mk))]) 105 hB (x_pfU (av := []) (q0 := 3) (x := ⟨"LineCoder$Receiver", "marks", "()I"⟩) (owner := "LineCoder$Receiver") hB w_568 xHd_code w_563 w_565 (va_Decl.abs (va_Nw.of rfl (hB.qt _ w_564))) w_567 w_566 rfl rfl (by decide) ⟨⟨by decide +kernel, by decide +kernel⟩, by decide +kernel⟩ rfl d_X_count_102) (c_T_marks l E ht h0 fo plus first sl bd wr mk rw) w_568 xHd_code w_4 [3] rfl rfl ⟨by decide, by decide⟩ ⟨by decide, by decide⟩ rfl rfl (Nat.le_of_ble_eq_true rfl) d_X_count_102 rfl rfl ?_
  exact x_iretP hB (rfl) (by decide) (by decide) d_X_count_105
abbrev rm_X_count0_4 : Room := { frames := 1, cells := 0, slots := 0, locals := 21 }
set_option maxHeartbeats 4000000 in
set_option maxRecDepth 100000 in
theorem c_X_count0_4 (l : Launch) (E : xE) (hx h0 h1 ht hw hz : Nat) (sp : Bool) (a0 n p : Nat) (f : Nat → Int32) (fo plus first : Bool) (sl bd wr mk rw : Nat) (hn : n ≤ 2640) : xCp l E y_X_count (.code y_X_count prog_1_method_13_code 5 (some .int)) rm_X_count0_4 [.ref hx, .int (nI 0), .int (nI 4)] [(hx, .inr (4, [.ref h0, .ref h1, .ref ht, .ref hw, .ref hz, .int (bI sp)])), (h0, .inr (0, [.ref a0, .int (nI (n)), .int (nI (p))])), (a0, .inl (E.2 0, 2640, .inl (f))), (ht, .inr (2, [.ref h0, .int (bI fo), .int (nI (sl)), .int (nI (bd)), .int (nI (wr)), .int (bI plus), .int (bI first), .int (nI (mk)), .int (nI (rw))]))] (.inl (some (.int (nI (sl))))) := by
  refine x_ofP (own := "LineCoder") (mn := "count") (lv := [(0, .ref hx), (1, .int (nI 0)), (2, .int (nI 4))]) (plainFor_of_name (by decide)) rfl rfl (Nat.le_of_ble_eq_true rfl) rfl ?_
  intro p_ e_ s_ m_ ar_ be_ me_ c_ hB
  refine x_aload_n 1 hB d_X_count_0 rfl rfl ?_
  refine x_iload_n 2 hB d_X_count_1 rfl rfl ?_
  refine x_callP (k' := 0) (n' := 0) (rest := []) (st' := [.ref h0]) 5 hB (x_pfV (av := [.int (nI 0)]) (q0 := 0) hB w_490 xHd_code w_487 w_489 s_X_lineOf rfl rfl nm_X_lineOf rfl d_X_count_2) (c_X_lineOf_0 l E hx h0 h1 ht hw hz sp) w_490 xHd_code w_1 [0] rfl rfl ⟨by decide, by decide⟩ ⟨by decide, by decide⟩ rfl rfl (Nat.le_of_ble_eq_true rfl) d_X_count_2 rfl rfl ?_
  refine x_astore_n 6 hB d_X_count_5 rfl (by decide) (lv' := [(3, .ref h0), (0, .ref hx), (1, .int (nI 0)), (2, .int (nI 4))]) rfl ?_
  refine x_iload_n 7 hB d_X_count_6 rfl rfl ?_
  refine x_if_ne 17 10 hB d_X_count_7 (by decide) rfl (fun hc => absurd (by decide) hc) (fun _ => ?_)
  refine x_aload_n 11 hB d_X_count_10 rfl rfl ?_
  refine x_get 14 hB 0 fg_X_24_4 rfl rfl d_X_count_11 rfl ?_
  refine x_goto 21 hB d_X_count_14 (by decide) ?_
  refine x_astore 23 hB d_X_count_21 rfl (by decide) (lv' := [(4, .ref ht), (3, .ref h0), (0, .ref hx), (1, .int (nI 0)), (2, .int (nI 4))]) rfl ?_
  refine x_iload_n 24 hB d_X_count_23 rfl rfl ?_
  refine x_tabIn 106 hB d_X_count_24 (by decide) (by decide) (off := 82) (by decide) (by decide) ?_
  refine x_aload 108 hB d_X_count_106 rfl rfl ?_
  refine x_callP (k' := 0) (n' := 0) (rest := []) (st' := [.int (nI (sl))]) 111 hB (x_pfU (av := []) (q0 := 3) (x := ⟨"LineCoder$Receiver", "slips", "()I"⟩) (owner := "LineCoder$Receiver") hB w_577 xHd_code w_572 w_574 (va_Decl.of (hB.qt _ w_573) (hB.qt _ w_577)) w_573 w_575 rfl rfl (by decide) ⟨⟨by decide +kernel, by decide +kernel⟩, by decide +kernel⟩ rfl d_X_count_108) (c_R_slips_T l E ht h0 fo plus first sl bd wr mk rw) w_577 xHd_code w_3 [3] rfl rfl ⟨by decide, by decide⟩ ⟨by decide, by decide⟩ rfl rfl (Nat.le_of_ble_eq_true rfl) d_X_count_108 rfl rfl ?_
  exact x_iretP hB (rfl) (by decide) (by decide) d_X_count_111
abbrev rm_X_count0_5 : Room := { frames := 1, cells := 0, slots := 0, locals := 21 }
set_option maxHeartbeats 4000000 in
set_option maxRecDepth 100000 in
theorem c_X_count0_5 (l : Launch) (E : xE) (hx h0 h1 ht hw hz : Nat) (sp : Bool) (a0 n p : Nat) (f : Nat → Int32) (fo plus first : Bool) (sl bd wr mk rw : Nat) (hn : n ≤ 2640) : xCp l E y_X_count (.code y_X_count prog_1_method_13_code 5 (some .int)) rm_X_count0_5 [.ref hx, .int (nI 0), .int (nI 5)] [(hx, .inr (4, [.ref h0, .ref h1, .ref ht, .ref hw, .ref hz, .int (bI sp)])), (h0, .inr (0, [.ref a0, .int (nI (n)), .int (nI (p))])), (a0, .inl (E.2 0, 2640, .inl (f))), (ht, .inr (2, [.ref h0, .int (bI fo), .int (nI (sl)), .int (nI (bd)), .int (nI (wr)), .int (bI plus), .int (bI first), .int (nI (mk)), .int (nI (rw))]))] (.inl (some (.int (nI (bd))))) := by
  refine x_ofP (own := "LineCoder") (mn := "count") (lv := [(0, .ref hx), (1, .int (nI 0)), (2, .int (nI 5))]) (plainFor_of_name (by decide)) rfl rfl (Nat.le_of_ble_eq_true rfl) rfl ?_
  intro p_ e_ s_ m_ ar_ be_ me_ c_ hB
  refine x_aload_n 1 hB d_X_count_0 rfl rfl ?_
  refine x_iload_n 2 hB d_X_count_1 rfl rfl ?_
  refine x_callP (k' := 0) (n' := 0) (rest := []) (st' := [.ref h0]) 5 hB (x_pfV (av := [.int (nI 0)]) (q0 := 0) hB w_490 xHd_code w_487 w_489 s_X_lineOf rfl rfl nm_X_lineOf rfl d_X_count_2) (c_X_lineOf_0 l E hx h0 h1 ht hw hz sp) w_490 xHd_code w_1 [0] rfl rfl ⟨by decide, by decide⟩ ⟨by decide, by decide⟩ rfl rfl (Nat.le_of_ble_eq_true rfl) d_X_count_2 rfl rfl ?_
  refine x_astore_n 6 hB d_X_count_5 rfl (by decide) (lv' := [(3, .ref h0), (0, .ref hx), (1, .int (nI 0)), (2, .int (nI 5))]) rfl ?_
  refine x_iload_n 7 hB d_X_count_6 rfl rfl ?_
  refine x_if_ne 17 10 hB d_X_count_7 (by decide) rfl (fun hc => absurd (by decide) hc) (fun _ => ?_)
  refine x_aload_n 11 hB d_X_count_10 rfl rfl ?_
  refine x_get 14 hB 0 fg_X_24_4 rfl rfl d_X_count_11 rfl ?_
  refine x_goto 21 hB d_X_count_14 (by decide) ?_
  refine x_astore 23 hB d_X_count_21 rfl (by decide) (lv' := [(4, .ref ht), (3, .ref h0), (0, .ref hx), (1, .int (nI 0)), (2, .int (nI 5))]) rfl ?_
  refine x_iload_n 24 hB d_X_count_23 rfl rfl ?_
  refine x_tabIn 112 hB d_X_count_24 (by decide) (by decide) (off := 88) (by decide) (by decide) ?_
  refine x_aload 114 hB d_X_count_112 rfl rfl ?_
  refine x_callP (k' := 0) (n' := 0) (rest := []) (st' := [.int (nI (bd))]) 117 hB (x_pfU (av := []) (q0 := 3) (x := ⟨"LineCoder$Receiver", "bads", "()I"⟩) (owner := "LineCoder$Receiver") hB w_583 xHd_code w_578 w_580 (va_Decl.of (hB.qt _ w_579) (hB.qt _ w_583)) w_579 w_581 rfl rfl (by decide) ⟨⟨by decide +kernel, by decide +kernel⟩, by decide +kernel⟩ rfl d_X_count_114) (c_R_bads_T l E ht h0 fo plus first sl bd wr mk rw) w_583 xHd_code w_3 [3] rfl rfl ⟨by decide, by decide⟩ ⟨by decide, by decide⟩ rfl rfl (Nat.le_of_ble_eq_true rfl) d_X_count_114 rfl rfl ?_
  exact x_iretP hB (rfl) (by decide) (by decide) d_X_count_117
abbrev rm_X_count0_6 : Room := { frames := 1, cells := 0, slots := 0, locals := 21 }
set_option maxHeartbeats 4000000 in
set_option maxRecDepth 100000 in
theorem c_X_count0_6 (l : Launch) (E : xE) (hx h0 h1 ht hw hz : Nat) (sp : Bool) (a0 n p : Nat) (f : Nat → Int32) (fo plus first : Bool) (sl bd wr mk rw : Nat) (hn : n ≤ 2640) : xCp l E y_X_count (.code y_X_count prog_1_method_13_code 5 (some .int)) rm_X_count0_6 [.ref hx, .int (nI 0), .int (nI 6)] [(hx, .inr (4, [.ref h0, .ref h1, .ref ht, .ref hw, .ref hz, .int (bI sp)])), (h0, .inr (0, [.ref a0, .int (nI (n)), .int (nI (p))])), (a0, .inl (E.2 0, 2640, .inl (f))), (ht, .inr (2, [.ref h0, .int (bI fo), .int (nI (sl)), .int (nI (bd)), .int (nI (wr)), .int (bI plus), .int (bI first), .int (nI (mk)), .int (nI (rw))]))] (.inl (some (.int (nI (wr))))) := by
  refine x_ofP (own := "LineCoder") (mn := "count") (lv := [(0, .ref hx), (1, .int (nI 0)), (2, .int (nI 6))]) (plainFor_of_name (by decide)) rfl rfl (Nat.le_of_ble_eq_true rfl) rfl ?_
  intro p_ e_ s_ m_ ar_ be_ me_ c_ hB
  refine x_aload_n 1 hB d_X_count_0 rfl rfl ?_
  refine x_iload_n 2 hB d_X_count_1 rfl rfl ?_
  refine x_callP (k' := 0) (n' := 0) (rest := []) (st' := [.ref h0]) 5 hB (x_pfV (av := [.int (nI 0)]) (q0 := 0) hB w_490 xHd_code w_487 w_489 s_X_lineOf rfl rfl nm_X_lineOf rfl d_X_count_2) (c_X_lineOf_0 l E hx h0 h1 ht hw hz sp) w_490 xHd_code w_1 [0] rfl rfl ⟨by decide, by decide⟩ ⟨by decide, by decide⟩ rfl rfl (Nat.le_of_ble_eq_true rfl) d_X_count_2 rfl rfl ?_
  refine x_astore_n 6 hB d_X_count_5 rfl (by decide) (lv' := [(3, .ref h0), (0, .ref hx), (1, .int (nI 0)), (2, .int (nI 6))]) rfl ?_
  refine x_iload_n 7 hB d_X_count_6 rfl rfl ?_
  refine x_if_ne 17 10 hB d_X_count_7 (by decide) rfl (fun hc => absurd (by decide) hc) (fun _ => ?_)
  refine x_aload_n 11 hB d_X_count_10 rfl rfl ?_
  refine x_get 14 hB 0 fg_X_24_4 rfl rfl d_X_count_11 rfl ?_
  refine x_goto 21 hB d_X_count_14 (by decide) ?_
  refine x_astore 23 hB d_X_count_21 rfl (by decide) (lv' := [(4, .ref ht), (3, .ref h0), (0, .ref hx), (1, .int (nI 0)), (2, .int (nI 6))]) rfl ?_
  refine x_iload_n 24 hB d_X_count_23 rfl rfl ?_
  refine x_tabIn 118 hB d_X_count_24 (by decide) (by decide) (off := 94) (by decide) (by decide) ?_
  refine x_aload 120 hB d_X_count_118 rfl rfl ?_
  refine x_callP (k' := 0) (n' := 0) (rest := []) (st' := [.int (nI (wr))]) 123 hB (x_pfU (av := []) (q0 := 3) (x := ⟨"LineCoder$Receiver", "wrongs", "()I"⟩) (owner := "LineCoder$Receiver") hB w_589 xHd_code w_584 w_586 (va_Decl.of (hB.qt _ w_585) (hB.qt _ w_589)) w_585 w_587 rfl rfl (by decide) ⟨⟨by decide +kernel, by decide +kernel⟩, by decide +kernel⟩ rfl d_X_count_120) (c_R_wrongs_T l E ht h0 fo plus first sl bd wr mk rw) w_589 xHd_code w_3 [3] rfl rfl ⟨by decide, by decide⟩ ⟨by decide, by decide⟩ rfl rfl (Nat.le_of_ble_eq_true rfl) d_X_count_120 rfl rfl ?_
  exact x_iretP hB (rfl) (by decide) (by decide) d_X_count_123
abbrev rm_X_count0_7 : Room := { frames := 1, cells := 0, slots := 0, locals := 22 }
set_option maxHeartbeats 4000000 in
set_option maxRecDepth 100000 in
theorem c_X_count0_7 (l : Launch) (E : xE) (hx h0 h1 ht hw hz : Nat) (sp : Bool) (a0 n p : Nat) (f : Nat → Int32) (fo plus first : Bool) (sl bd wr mk rw : Nat) (hn : n ≤ 2640) : xCp l E y_X_count (.code y_X_count prog_1_method_13_code 5 (some .int)) rm_X_count0_7 [.ref hx, .int (nI 0), .int (nI 7)] [(hx, .inr (4, [.ref h0, .ref h1, .ref ht, .ref hw, .ref hz, .int (bI sp)])), (h0, .inr (0, [.ref a0, .int (nI (n)), .int (nI (p))])), (a0, .inl (E.2 0, 2640, .inl (f))), (ht, .inr (2, [.ref h0, .int (bI fo), .int (nI (sl)), .int (nI (bd)), .int (nI (wr)), .int (bI plus), .int (bI first), .int (nI (mk)), .int (nI (rw))]))] (.inl (some (.int (olF f n)))) := by
  refine x_ofP (own := "LineCoder") (mn := "count") (lv := [(0, .ref hx), (1, .int (nI 0)), (2, .int (nI 7))]) (plainFor_of_name (by decide)) rfl rfl (Nat.le_of_ble_eq_true rfl) rfl ?_
  intro p_ e_ s_ m_ ar_ be_ me_ c_ hB
  refine x_aload_n 1 hB d_X_count_0 rfl rfl ?_
  refine x_iload_n 2 hB d_X_count_1 rfl rfl ?_
  refine x_callP (k' := 0) (n' := 0) (rest := []) (st' := [.ref h0]) 5 hB (x_pfV (av := [.int (nI 0)]) (q0 := 0) hB w_490 xHd_code w_487 w_489 s_X_lineOf rfl rfl nm_X_lineOf rfl d_X_count_2) (c_X_lineOf_0 l E hx h0 h1 ht hw hz sp) w_490 xHd_code w_1 [0] rfl rfl ⟨by decide, by decide⟩ ⟨by decide, by decide⟩ rfl rfl (Nat.le_of_ble_eq_true rfl) d_X_count_2 rfl rfl ?_
  refine x_astore_n 6 hB d_X_count_5 rfl (by decide) (lv' := [(3, .ref h0), (0, .ref hx), (1, .int (nI 0)), (2, .int (nI 7))]) rfl ?_
  refine x_iload_n 7 hB d_X_count_6 rfl rfl ?_
  refine x_if_ne 17 10 hB d_X_count_7 (by decide) rfl (fun hc => absurd (by decide) hc) (fun _ => ?_)
  refine x_aload_n 11 hB d_X_count_10 rfl rfl ?_
  refine x_get 14 hB 0 fg_X_24_4 rfl rfl d_X_count_11 rfl ?_
  refine x_goto 21 hB d_X_count_14 (by decide) ?_
  refine x_astore 23 hB d_X_count_21 rfl (by decide) (lv' := [(4, .ref ht), (3, .ref h0), (0, .ref hx), (1, .int (nI 0)), (2, .int (nI 7))]) rfl ?_
  refine x_iload_n 24 hB d_X_count_23 rfl rfl ?_
  refine x_tabIn 124 hB d_X_count_24 (by decide) (by decide) (off := 100) (by decide) (by decide) ?_
  refine x_aload_n 125 hB d_X_count_124 rfl rfl ?_
  refine x_callP (k' := 0) (n' := 0) (rest := []) (st' := [.int (olF f n)]) 128 hB (x_pfV (av := []) (q0 := 1) hB w_593 xHd_code w_590 w_591 w_592 rfl rfl nm_L_onesLessZeros rfl d_X_count_125) (c_L_olz l E h0 a0 n p f hn) w_593 xHd_code w_2 [1, 2] rfl rfl ⟨by decide, by decide⟩ ⟨by decide, by decide⟩ rfl rfl (Nat.le_of_ble_eq_true rfl) d_X_count_125 rfl rfl ?_
  exact x_iretP hB (rfl) (by decide) (by decide) d_X_count_128
abbrev rm_X_count0_8 : Room := { frames := 2, cells := 0, slots := 0, locals := 44 }
set_option maxHeartbeats 4000000 in
set_option maxRecDepth 100000 in
theorem c_X_count0_8 (l : Launch) (E : xE) (hx h0 h1 ht hw hz : Nat) (sp : Bool) (a0 n p : Nat) (f : Nat → Int32) (fo plus first : Bool) (sl bd wr mk rw : Nat) (hn : n ≤ 2640) : xCp l E y_X_count (.code y_X_count prog_1_method_13_code 5 (some .int)) rm_X_count0_8 [.ref hx, .int (nI 0), .int (nI 8)] [(hx, .inr (4, [.ref h0, .ref h1, .ref ht, .ref hw, .ref hz, .int (bI sp)])), (h0, .inr (0, [.ref a0, .int (nI (n)), .int (nI (p))])), (a0, .inl (E.2 0, 2640, .inl (f))), (ht, .inr (2, [.ref h0, .int (bI fo), .int (nI (sl)), .int (nI (bd)), .int (nI (wr)), .int (bI plus), .int (bI first), .int (nI (mk)), .int (nI (rw))]))] (.inl (some (.int (nI ((lrF f n).2))))) := by
  refine x_ofP (own := "LineCoder") (mn := "count") (lv := [(0, .ref hx), (1, .int (nI 0)), (2, .int (nI 8))]) (plainFor_of_name (by decide)) rfl rfl (Nat.le_of_ble_eq_true rfl) rfl ?_
  intro p_ e_ s_ m_ ar_ be_ me_ c_ hB
  refine x_aload_n 1 hB d_X_count_0 rfl rfl ?_
  refine x_iload_n 2 hB d_X_count_1 rfl rfl ?_
  refine x_callP (k' := 0) (n' := 0) (rest := []) (st' := [.ref h0]) 5 hB (x_pfV (av := [.int (nI 0)]) (q0 := 0) hB w_490 xHd_code w_487 w_489 s_X_lineOf rfl rfl nm_X_lineOf rfl d_X_count_2) (c_X_lineOf_0 l E hx h0 h1 ht hw hz sp) w_490 xHd_code w_1 [0] rfl rfl ⟨by decide, by decide⟩ ⟨by decide, by decide⟩ rfl rfl (Nat.le_of_ble_eq_true rfl) d_X_count_2 rfl rfl ?_
  refine x_astore_n 6 hB d_X_count_5 rfl (by decide) (lv' := [(3, .ref h0), (0, .ref hx), (1, .int (nI 0)), (2, .int (nI 8))]) rfl ?_
  refine x_iload_n 7 hB d_X_count_6 rfl rfl ?_
  refine x_if_ne 17 10 hB d_X_count_7 (by decide) rfl (fun hc => absurd (by decide) hc) (fun _ => ?_)
  refine x_aload_n 11 hB d_X_count_10 rfl rfl ?_
  refine x_get 14 hB 0 fg_X_24_4 rfl rfl d_X_count_11 rfl ?_
  refine x_goto 21 hB d_X_count_14 (by decide) ?_
  refine x_astore 23 hB d_X_count_21 rfl (by decide) (lv' := [(4, .ref ht), (3, .ref h0), (0, .ref hx), (1, .int (nI 0)), (2, .int (nI 8))]) rfl ?_
  refine x_iload_n 24 hB d_X_count_23 rfl rfl ?_
  refine x_tabIn 129 hB d_X_count_24 (by decide) (by decide) (off := 105) (by decide) (by decide) ?_
  refine x_aload_n 130 hB d_X_count_129 rfl rfl ?_
  refine x_callP (k' := 0) (n' := 0) (rest := []) (st' := [.int (nI ((lrF f n).2))]) 133 hB (x_pfV (av := []) (q0 := 1) hB w_597 xHd_code w_594 w_595 w_596 rfl rfl nm_L_longestRun rfl d_X_count_130) (c_L_lr l E h0 a0 n p f hn) w_597 xHd_code w_2 [1, 2] rfl rfl ⟨by decide, by decide⟩ ⟨by decide, by decide⟩ rfl rfl (Nat.le_of_ble_eq_true rfl) d_X_count_130 rfl rfl ?_
  exact x_iretP hB (rfl) (by decide) (by decide) d_X_count_133
abbrev rm_X_count0_b : Room := { frames := 6, cells := 1, slots := 6, locals := 83 }
set_option maxHeartbeats 4000000 in
set_option maxRecDepth 100000 in
theorem c_X_count0_b (l : Launch) (E : xE) (hT : xNoTr l) (hx h0 h1 ht hw hz : Nat) (sp : Bool) (k : Int32) (hk : k < 0 ∨ nI 8 < k) : xCp l E y_X_count (.code y_X_count prog_1_method_13_code 5 (some .int)) rm_X_count0_b [.ref hx, .int (nI 0), .int (k)] [(hx, .inr (4, [.ref h0, .ref h1, .ref ht, .ref hw, .ref hz, .int (bI sp)]))] (.inr "java/lang/IllegalArgumentException") := by
  refine x_ofP (own := "LineCoder") (mn := "count") (lv := [(0, .ref hx), (1, .int (nI 0)), (2, .int (k))]) (plainFor_of_name (by decide)) rfl rfl (Nat.le_of_ble_eq_true rfl) rfl ?_
  intro p_ e_ s_ m_ ar_ be_ me_ c_ hB
  refine x_aload_n 1 hB d_X_count_0 rfl rfl ?_
  refine x_iload_n 2 hB d_X_count_1 rfl rfl ?_
  refine x_callP (k' := 0) (n' := 0) (rest := []) (st' := [.ref h0]) 5 hB (x_pfV (av := [.int (nI 0)]) (q0 := 0) hB w_490 xHd_code w_487 w_489 s_X_lineOf rfl rfl nm_X_lineOf rfl d_X_count_2) (c_X_lineOf_0 l E hx h0 h1 ht hw hz sp) w_490 xHd_code w_1 [0] rfl rfl ⟨by decide, by decide⟩ ⟨by decide, by decide⟩ rfl rfl (Nat.le_of_ble_eq_true rfl) d_X_count_2 rfl rfl ?_
  refine x_astore_n 6 hB d_X_count_5 rfl (by decide) (lv' := [(3, .ref h0), (0, .ref hx), (1, .int (nI 0)), (2, .int (k))]) rfl ?_
  refine x_iload_n 7 hB d_X_count_6 rfl rfl ?_
  refine x_if_ne 17 10 hB d_X_count_7 (by decide) rfl (fun hc => absurd (by decide) hc) (fun _ => ?_)
  refine x_aload_n 11 hB d_X_count_10 rfl rfl ?_
  refine x_get 14 hB 0 fg_X_24_4 rfl rfl d_X_count_11 rfl ?_
  refine x_goto 21 hB d_X_count_14 (by decide) ?_
  refine x_astore 23 hB d_X_count_21 rfl (by decide) (lv' := [(4, .ref ht), (3, .ref h0), (0, .ref hx), (1, .int (nI 0)), (2, .int (k))]) rfl ?_
  refine x_iload_n 24 hB d_X_count_23 rfl rfl ?_
  refine x_tabOut 134 hB d_X_count_24 (hk.elim (fun h => Or.inl (Int32.lt_iff_toInt_lt.mp h)) (fun h => Or.inr (Int32.lt_iff_toInt_lt.mp h))) (by decide) ?_
  exact x_throw hT hB ["java/lang/RuntimeException", "java/lang/Exception"] w_352 w_353 w_12 w_599 tw_X_60 (by decide) (by decide) (by decide) (by decide) ⟨by decide, by decide⟩ (by decide) (by decide) (by decide) d_X_count_134 d_X_count_137 d_X_count_138 d_X_count_140 d_X_count_143
abbrev rm_X_raw1 : Room := { frames := 2, cells := 0, slots := 0, locals := 42 }
set_option maxHeartbeats 4000000 in
set_option maxRecDepth 100000 in
theorem c_X_raw1 (l : Launch) (E : xE) (hx h0 h1 ht hw hz : Nat) (sp : Bool) (a0 n p : Nat) (f : Nat → Int32) (x : Int32) (q : Nat) (hq : q ≤ 32) (hr : n + q ≤ 2640) : xC l E y_X_raw (.code y_X_raw prog_1_method_9_code 5 (some .int)) rm_X_raw1 [.ref hx, .int (nI 1), .int (x), .int (nI (q))] [(hx, .inr (4, [.ref h0, .ref h1, .ref ht, .ref hw, .ref hz, .int (bI sp)])), (h1, .inr (0, [.ref a0, .int (nI (n)), .int (nI (p))])), (a0, .inl (E.2 0, 2640, .inl (f)))] (xRet (some (.int (nI (n + q)))) [(hx, .inr (4, [.ref h0, .ref h1, .ref ht, .ref hw, .ref hz, .int (bI sp)])), (h1, .inr (0, [.ref a0, .int (nI (n + q)), .int (nI (p))])), (a0, .inl (E.2 0, 2640, .inl (apF f n x q q)))]) := by
  refine x_of' (own := "LineCoder") (mn := "raw") (lv := [(0, .ref hx), (1, .int (nI 1)), (2, .int (x)), (3, .int (nI (q)))]) (plainFor_of_name (by decide)) rfl rfl (Nat.le_of_ble_eq_true rfl) rfl ?_
  intro p_ e_ s_ m_ ar_ be_ me_ c_ A_ hA hB
  refine x_aload_n 1 hB d_X_raw_0 rfl rfl ?_
  refine x_iload_n 2 hB d_X_raw_1 rfl rfl ?_
  refine x_callP (k' := 0) (n' := 0) (rest := []) (st' := [.ref h1]) 5 hB (x_pfV (av := [.int (nI 1)]) (q0 := 0) hB w_490 xHd_code w_487 w_489 s_X_lineOf rfl rfl nm_X_lineOf rfl d_X_raw_2) (c_X_lineOf_1 l E hx h0 h1 ht hw hz sp) w_490 xHd_code w_1 [0] rfl rfl ⟨by decide, by decide⟩ ⟨by decide, by decide⟩ rfl rfl (Nat.le_of_ble_eq_true rfl) d_X_raw_2 rfl rfl ?_
  refine x_astore 7 hB d_X_raw_5 rfl (by decide) (lv' := [(4, .ref h1), (0, .ref hx), (1, .int (nI 1)), (2, .int (x)), (3, .int (nI (q)))]) rfl ?_
  refine x_iload_n 8 hB d_X_raw_7 rfl rfl ?_
  refine x_if_lt 17 11 hB d_X_raw_8 (by decide) rfl (fun hc => absurd hc (nI_pos (by omega))) (fun _ => ?_)
  refine x_iload_n 12 hB d_X_raw_11 rfl rfl ?_
  refine x_bipush (v := nI 32) 14 hB d_X_raw_12 rfl (by decide) ?_
  refine x_icmp_le 27 17 hB d_X_raw_14 (by decide) rfl (fun _ => ?_) (fun hc => absurd (nI_le hq (by decide)) hc)
  refine x_aload 29 hB d_X_raw_27 rfl rfl ?_
  refine x_iload_n 30 hB d_X_raw_29 rfl rfl ?_
  refine x_callP (k' := 0) (n' := 0) (rest := []) (st' := []) 33 hB (x_pfS (av := [.ref h1, .int (nI (q))]) hB w_439 xHd_code w_1 w_437 w_438 nm_X_refuseNoRoom rfl d_X_raw_30) (c_X_rnr l E h1 a0 n p q hr) w_439 xHd_code w_1 [1] rfl rfl ⟨by decide, by decide⟩ ⟨by decide, by decide⟩ rfl rfl (Nat.le_of_ble_eq_true rfl) d_X_raw_30 rfl rfl ?_
  refine x_aload 35 hB d_X_raw_33 rfl rfl ?_
  refine x_iload_n 36 hB d_X_raw_35 rfl rfl ?_
  refine x_iload_n 37 hB d_X_raw_36 rfl rfl ?_
  refine x_callD (k' := 0) (n' := 0) (rest := []) (wr := [(hx, .inr (4, [.ref h0, .ref h1, .ref ht, .ref hw, .ref hz, .int (bI sp)]))]) (ws' := [(hx, .inr (4, [.ref h0, .ref h1, .ref ht, .ref hw, .ref hz, .int (bI sp)])), (h1, .inr (0, [.ref a0, .int (nI (n + q)), .int (nI (p))])), (a0, .inl (E.2 0, 2640, .inl (apF f n x q q)))]) (st' := []) 40 hB (x_pfV (av := [.int (x), .int (nI (q))]) (q0 := 1) hB w_463 xHd_code w_460 w_461 w_462 rfl rfl nm_L_append rfl d_X_raw_37) (c_L_append l E h1 a0 n p f x q hr) w_463 xHd_code w_2 [1, 2] [0] rfl rfl rfl rfl (by decide) ⟨by decide, by decide⟩ ⟨by decide, by decide⟩ rfl rfl (Nat.le_of_ble_eq_true rfl) d_X_raw_37 rfl rfl rfl ?_
  refine x_aload 42 hB d_X_raw_40 rfl rfl ?_
  refine x_callP (k' := 0) (n' := 0) (rest := []) (st' := [.int (nI (n + q))]) 45 hB (x_pfV (av := []) (q0 := 1) hB w_479 xHd_code w_476 w_477 w_478 rfl rfl nm_L_size rfl d_X_raw_42) (c_L_size l E h1 a0 (n + q) p) w_479 xHd_code w_2 [1] rfl rfl ⟨by decide, by decide⟩ ⟨by decide, by decide⟩ rfl rfl (Nat.le_of_ble_eq_true rfl) d_X_raw_42 rfl rfl ?_
  exact x_iret hB (w' := [(hx, .inr (4, [.ref h0, .ref h1, .ref ht, .ref hw, .ref hz, .int (bI sp)])), (h1, .inr (0, [.ref a0, .int (nI (n + q)), .int (nI (p))])), (a0, .inl (E.2 0, 2640, .inl (apF f n x q q)))]) hA [0, 1, 2] rfl rfl (xRet_i) (by decide) (by decide) d_X_raw_45
abbrev rm_X_raw1_m : Room := { frames := 6, cells := 1, slots := 6, locals := 83 }
set_option maxHeartbeats 4000000 in
set_option maxRecDepth 100000 in
theorem c_X_raw1_m (l : Launch) (E : xE) (hT : xNoTr l) (hx h0 h1 ht hw hz : Nat) (sp : Bool) (x z : Int32) (hz9 : z < 0 ∨ nI 32 < z) : xCp l E y_X_raw (.code y_X_raw prog_1_method_9_code 5 (some .int)) rm_X_raw1_m [.ref hx, .int (nI 1), .int (x), .int (z)] [(hx, .inr (4, [.ref h0, .ref h1, .ref ht, .ref hw, .ref hz, .int (bI sp)]))] (.inr "java/lang/IllegalArgumentException") := by
  refine x_ofP (own := "LineCoder") (mn := "raw") (lv := [(0, .ref hx), (1, .int (nI 1)), (2, .int (x)), (3, .int (z))]) (plainFor_of_name (by decide)) rfl rfl (Nat.le_of_ble_eq_true rfl) rfl ?_
  intro p_ e_ s_ m_ ar_ be_ me_ c_ hB
  refine x_aload_n 1 hB d_X_raw_0 rfl rfl ?_
  refine x_iload_n 2 hB d_X_raw_1 rfl rfl ?_
  refine x_callP (k' := 0) (n' := 0) (rest := []) (st' := [.ref h1]) 5 hB (x_pfV (av := [.int (nI 1)]) (q0 := 0) hB w_490 xHd_code w_487 w_489 s_X_lineOf rfl rfl nm_X_lineOf rfl d_X_raw_2) (c_X_lineOf_1 l E hx h0 h1 ht hw hz sp) w_490 xHd_code w_1 [0] rfl rfl ⟨by decide, by decide⟩ ⟨by decide, by decide⟩ rfl rfl (Nat.le_of_ble_eq_true rfl) d_X_raw_2 rfl rfl ?_
  refine x_astore 7 hB d_X_raw_5 rfl (by decide) (lv' := [(4, .ref h1), (0, .ref hx), (1, .int (nI 1)), (2, .int (x)), (3, .int (z))]) rfl ?_
  refine x_iload_n 8 hB d_X_raw_7 rfl rfl ?_
  refine x_if_lt 17 11 hB d_X_raw_8 (by decide) rfl (fun h8 => ?_) (fun h8 => ?_)
  · skip
    exact x_throw hT hB ["java/lang/RuntimeException", "java/lang/Exception"] w_352 w_353 w_12 w_492 tw_X_60 (by decide) (by decide) (by decide) (by decide) ⟨by decide, by decide⟩ (by decide) (by decide) (by decide) d_X_raw_17 d_X_raw_20 d_X_raw_21 d_X_raw_23 d_X_raw_26
  · skip
    refine x_iload_n 12 hB d_X_raw_11 rfl rfl ?_
    refine x_bipush (v := nI 32) 14 hB d_X_raw_12 rfl (by decide) ?_
    refine x_icmp_le 27 17 hB d_X_raw_14 (by decide) rfl (fun hc => absurd hc (fun h => absurd (hz9.resolve_left h8) (Int32.not_lt.mpr h))) (fun _ => ?_)
    exact x_throw hT hB ["java/lang/RuntimeException", "java/lang/Exception"] w_352 w_353 w_12 w_492 tw_X_60 (by decide) (by decide) (by decide) (by decide) ⟨by decide, by decide⟩ (by decide) (by decide) (by decide) d_X_raw_17 d_X_raw_20 d_X_raw_21 d_X_raw_23 d_X_raw_26
abbrev rm_X_raw1_f : Room := { frames := 7, cells := 1, slots := 6, locals := 104 }
set_option maxHeartbeats 4000000 in
set_option maxRecDepth 100000 in
theorem c_X_raw1_f (l : Launch) (E : xE) (hT : xNoTr l) (hx h0 h1 ht hw hz : Nat) (sp : Bool) (a0 n p : Nat) (x : Int32) (q : Nat) (hq : q ≤ 32) (hn : n ≤ 2640) (hr : 2640 < n + q) : xCp l E y_X_raw (.code y_X_raw prog_1_method_9_code 5 (some .int)) rm_X_raw1_f [.ref hx, .int (nI 1), .int (x), .int (nI (q))] [(hx, .inr (4, [.ref h0, .ref h1, .ref ht, .ref hw, .ref hz, .int (bI sp)])), (h1, .inr (0, [.ref a0, .int (nI (n)), .int (nI (p))]))] (.inr "java/lang/IllegalStateException") := by
  refine x_ofP (own := "LineCoder") (mn := "raw") (lv := [(0, .ref hx), (1, .int (nI 1)), (2, .int (x)), (3, .int (nI (q)))]) (plainFor_of_name (by decide)) rfl rfl (Nat.le_of_ble_eq_true rfl) rfl ?_
  intro p_ e_ s_ m_ ar_ be_ me_ c_ hB
  refine x_aload_n 1 hB d_X_raw_0 rfl rfl ?_
  refine x_iload_n 2 hB d_X_raw_1 rfl rfl ?_
  refine x_callP (k' := 0) (n' := 0) (rest := []) (st' := [.ref h1]) 5 hB (x_pfV (av := [.int (nI 1)]) (q0 := 0) hB w_490 xHd_code w_487 w_489 s_X_lineOf rfl rfl nm_X_lineOf rfl d_X_raw_2) (c_X_lineOf_1 l E hx h0 h1 ht hw hz sp) w_490 xHd_code w_1 [0] rfl rfl ⟨by decide, by decide⟩ ⟨by decide, by decide⟩ rfl rfl (Nat.le_of_ble_eq_true rfl) d_X_raw_2 rfl rfl ?_
  refine x_astore 7 hB d_X_raw_5 rfl (by decide) (lv' := [(4, .ref h1), (0, .ref hx), (1, .int (nI 1)), (2, .int (x)), (3, .int (nI (q)))]) rfl ?_
  refine x_iload_n 8 hB d_X_raw_7 rfl rfl ?_
  refine x_if_lt 17 11 hB d_X_raw_8 (by decide) rfl (fun hc => absurd hc (nI_pos (by omega))) (fun _ => ?_)
  refine x_iload_n 12 hB d_X_raw_11 rfl rfl ?_
  refine x_bipush (v := nI 32) 14 hB d_X_raw_12 rfl (by decide) ?_
  refine x_icmp_le 27 17 hB d_X_raw_14 (by decide) rfl (fun _ => ?_) (fun hc => absurd (nI_le hq (by decide)) hc)
  refine x_aload 29 hB d_X_raw_27 rfl rfl ?_
  refine x_iload_n 30 hB d_X_raw_29 rfl rfl ?_
  refine x_callPT (k' := 1) (n' := 6) (rest := []) hB (x_pfS (av := [.ref h1, .int (nI (q))]) hB w_439 xHd_code w_1 w_437 w_438 nm_X_refuseNoRoom rfl d_X_raw_30) (c_X_rnr_b l E hT h1 a0 n p q hn hr (by omega)) w_439 xHd_code w_1 [1] rfl rfl ⟨by decide, by decide⟩ ⟨by decide, by decide⟩ rfl rfl (Nat.le_of_ble_eq_true rfl) d_X_raw_30 ?_
  exact x_leaveP hB (by decide) (by decide) (by decide)
abbrev rm_X_bend1 : Room := { frames := 2, cells := 0, slots := 0, locals := 42 }
set_option maxHeartbeats 4000000 in
set_option maxRecDepth 100000 in
theorem c_X_bend1 (l : Launch) (E : xE) (hx h0 h1 ht hw hz : Nat) (sp : Bool) (a0 n p : Nat) (f : Nat → Int32) (j : Nat) (hj : j < n) (hn : n ≤ 2640) (hb : f j = 0 ∨ f j = 1) : xC l E y_X_bend (.code y_X_bend prog_1_method_10_code 4 (some .boolean)) rm_X_bend1 [.ref hx, .int (nI 1), .int (nI (j))] [(hx, .inr (4, [.ref h0, .ref h1, .ref ht, .ref hw, .ref hz, .int (bI sp)])), (h1, .inr (0, [.ref a0, .int (nI (n)), .int (nI (p))])), (a0, .inl (E.2 0, 2640, .inl (f)))] (xRet (some (.int (bI (decide (f j = 0))))) [(hx, .inr (4, [.ref h0, .ref h1, .ref ht, .ref hw, .ref hz, .int (bI sp)])), (h1, .inr (0, [.ref a0, .int (nI (n)), .int (nI (p))])), (a0, .inl (E.2 0, 2640, .inl (upd f j (1 - f j))))]) := by
  refine x_of' (own := "LineCoder") (mn := "bend") (lv := [(0, .ref hx), (1, .int (nI 1)), (2, .int (nI (j)))]) (plainFor_of_name (by decide)) rfl rfl (Nat.le_of_ble_eq_true rfl) rfl ?_
  intro p_ e_ s_ m_ ar_ be_ me_ c_ A_ hA hB
  refine x_aload_n 1 hB d_X_bend_0 rfl rfl ?_
  refine x_iload_n 2 hB d_X_bend_1 rfl rfl ?_
  refine x_callP (k' := 0) (n' := 0) (rest := []) (st' := [.ref h1]) 5 hB (x_pfV (av := [.int (nI 1)]) (q0 := 0) hB w_490 xHd_code w_487 w_489 s_X_lineOf rfl rfl nm_X_lineOf rfl d_X_bend_2) (c_X_lineOf_1 l E hx h0 h1 ht hw hz sp) w_490 xHd_code w_1 [0] rfl rfl ⟨by decide, by decide⟩ ⟨by decide, by decide⟩ rfl rfl (Nat.le_of_ble_eq_true rfl) d_X_bend_2 rfl rfl ?_
  refine x_astore_n 6 hB d_X_bend_5 rfl (by decide) (lv' := [(3, .ref h1), (0, .ref hx), (1, .int (nI 1)), (2, .int (nI (j)))]) rfl ?_
  refine x_aload_n 7 hB d_X_bend_6 rfl rfl ?_
  refine x_iload_n 8 hB d_X_bend_7 rfl rfl ?_
  refine x_callP (k' := 0) (n' := 0) (rest := []) (st' := [.int (nI 1)]) 11 hB (x_pfV (av := [.int (nI (j))]) (q0 := 1) hB w_177 xHd_code w_501 w_175 w_176 rfl rfl nm_L_has rfl d_X_bend_8) (c_L_has_in l E h1 a0 n p j hj hn) w_177 xHd_code w_2 [1] rfl rfl ⟨by decide, by decide⟩ ⟨by decide, by decide⟩ rfl rfl (Nat.le_of_ble_eq_true rfl) d_X_bend_8 rfl rfl ?_
  refine x_if_ne 24 14 hB d_X_bend_11 (by decide) rfl (fun _ => ?_) (fun hc => absurd hc (by decide))
  refine x_aload_n 25 hB d_X_bend_24 rfl rfl ?_
  refine x_iload_n 26 hB d_X_bend_25 rfl rfl ?_
  refine x_callD (k' := 0) (n' := 0) (rest := []) (wr := [(hx, .inr (4, [.ref h0, .ref h1, .ref ht, .ref hw, .ref hz, .int (bI sp)]))]) (ws' := [(hx, .inr (4, [.ref h0, .ref h1, .ref ht, .ref hw, .ref hz, .int (bI sp)])), (h1, .inr (0, [.ref a0, .int (nI (n)), .int (nI (p))])), (a0, .inl (E.2 0, 2640, .inl (upd f j (1 - f j))))]) (st' := []) 29 hB (x_pfV (av := [.int (nI (j))]) (q0 := 1) hB w_521 xHd_code w_518 w_519 w_520 rfl rfl nm_L_turn rfl d_X_bend_26) (c_L_turn l E h1 a0 n p f j hj hn hb) w_521 xHd_code w_2 [1, 2] [0] rfl rfl rfl rfl (by decide) ⟨by decide, by decide⟩ ⟨by decide, by decide⟩ rfl rfl (Nat.le_of_ble_eq_true rfl) d_X_bend_26 rfl rfl rfl ?_
  refine x_aload_n 30 hB d_X_bend_29 rfl rfl ?_
  refine x_iload_n 31 hB d_X_bend_30 rfl rfl ?_
  refine x_callP (k' := 0) (n' := 0) (rest := []) (st' := [.int ((upd f j (1 - f j)) (j))]) 34 hB (x_pfV (av := [.int (nI (j))]) (q0 := 1) hB w_173 xHd_code w_522 w_171 w_172 rfl rfl nm_L_at rfl d_X_bend_31) (c_L_at_in l E h1 a0 n p (upd f j (1 - f j)) j hj hn) w_173 xHd_code w_2 [1, 2] rfl rfl ⟨by decide, by decide⟩ ⟨by decide, by decide⟩ rfl rfl (Nat.le_of_ble_eq_true rfl) d_X_bend_31 rfl rfl ?_
  refine x_top (v' := .int (1 - f j)) (congrArg Value.int (pk_us)) ?_
  refine x_iconst (v := nI 1) 35 hB d_X_bend_34 rfl (by decide) ?_
  refine x_icmp_ne 42 38 hB d_X_bend_35 (by decide) rfl (fun h35 => ?_) (fun h35 => ?_)
  · skip
    have k35 : ¬ f j = 0 := fun h => h35 ((turn01 hb).mpr h)
    refine x_iconst (v := nI 0) 43 hB d_X_bend_42 rfl (by decide) ?_
    exact x_zret hB (by decide) (w' := [(hx, .inr (4, [.ref h0, .ref h1, .ref ht, .ref hw, .ref hz, .int (bI sp)])), (h1, .inr (0, [.ref a0, .int (nI (n)), .int (nI (p))])), (a0, .inl (E.2 0, 2640, .inl (upd f j (1 - f j))))]) hA [0, 1, 2] rfl rfl (⟨by rw [show (nI 0) = bI (decide (f j = 0)) from bF0 (decide_eq_false k35)], rfl⟩) (by decide) (by decide) d_X_bend_43
  · skip
    have k35 : f j = 0 := (turn01 hb).mp h35
    refine x_iconst (v := nI 1) 39 hB d_X_bend_38 rfl (by decide) ?_
    refine x_goto 43 hB d_X_bend_39 (by decide) ?_
    exact x_zret hB (by decide) (w' := [(hx, .inr (4, [.ref h0, .ref h1, .ref ht, .ref hw, .ref hz, .int (bI sp)])), (h1, .inr (0, [.ref a0, .int (nI (n)), .int (nI (p))])), (a0, .inl (E.2 0, 2640, .inl (upd f j (1 - f j))))]) hA [0, 1, 2] rfl rfl (⟨by rw [show (nI 1) = bI (decide (f j = 0)) from bT (decide_eq_true k35)], rfl⟩) (by decide) (by decide) d_X_bend_43
abbrev rm_X_bend1_o : Room := { frames := 6, cells := 1, slots := 6, locals := 83 }
set_option maxHeartbeats 4000000 in
set_option maxRecDepth 100000 in
theorem c_X_bend1_o (l : Launch) (E : xE) (hT : xNoTr l) (hx h0 h1 ht hw hz : Nat) (sp : Bool) (a0 n p : Nat) (k : Int32) (hk : k < 0 ∨ nI n ≤ k) : xCp l E y_X_bend (.code y_X_bend prog_1_method_10_code 4 (some .boolean)) rm_X_bend1_o [.ref hx, .int (nI 1), .int (k)] [(hx, .inr (4, [.ref h0, .ref h1, .ref ht, .ref hw, .ref hz, .int (bI sp)])), (h1, .inr (0, [.ref a0, .int (nI (n)), .int (nI (p))]))] (.inr "java/lang/IndexOutOfBoundsException") := by
  refine x_ofP (own := "LineCoder") (mn := "bend") (lv := [(0, .ref hx), (1, .int (nI 1)), (2, .int (k))]) (plainFor_of_name (by decide)) rfl rfl (Nat.le_of_ble_eq_true rfl) rfl ?_
  intro p_ e_ s_ m_ ar_ be_ me_ c_ hB
  refine x_aload_n 1 hB d_X_bend_0 rfl rfl ?_
  refine x_iload_n 2 hB d_X_bend_1 rfl rfl ?_
  refine x_callP (k' := 0) (n' := 0) (rest := []) (st' := [.ref h1]) 5 hB (x_pfV (av := [.int (nI 1)]) (q0 := 0) hB w_490 xHd_code w_487 w_489 s_X_lineOf rfl rfl nm_X_lineOf rfl d_X_bend_2) (c_X_lineOf_1 l E hx h0 h1 ht hw hz sp) w_490 xHd_code w_1 [0] rfl rfl ⟨by decide, by decide⟩ ⟨by decide, by decide⟩ rfl rfl (Nat.le_of_ble_eq_true rfl) d_X_bend_2 rfl rfl ?_
  refine x_astore_n 6 hB d_X_bend_5 rfl (by decide) (lv' := [(3, .ref h1), (0, .ref hx), (1, .int (nI 1)), (2, .int (k))]) rfl ?_
  refine x_aload_n 7 hB d_X_bend_6 rfl rfl ?_
  refine x_iload_n 8 hB d_X_bend_7 rfl rfl ?_
  refine x_callP (k' := 0) (n' := 0) (rest := []) (st' := [.int (nI 0)]) 11 hB (x_pfV (av := [.int (k)]) (q0 := 1) hB w_177 xHd_code w_501 w_175 w_176 rfl rfl nm_L_has rfl d_X_bend_8) (c_L_has_out l E h1 a0 n p k hk) w_177 xHd_code w_2 [1] rfl rfl ⟨by decide, by decide⟩ ⟨by decide, by decide⟩ rfl rfl (Nat.le_of_ble_eq_true rfl) d_X_bend_8 rfl rfl ?_
  refine x_if_ne 24 14 hB d_X_bend_11 (by decide) rfl (fun hc => absurd (by decide) hc) (fun _ => ?_)
  exact x_throw hT hB ["java/lang/RuntimeException", "java/lang/Exception"] w_502 w_503 w_16 w_511 tw_X_110 (by decide) (by decide) (by decide) (by decide) ⟨by decide, by decide⟩ (by decide) (by decide) (by decide) d_X_bend_14 d_X_bend_17 d_X_bend_18 d_X_bend_20 d_X_bend_23
abbrev rm_X_lose1 : Room := { frames := 2, cells := 0, slots := 0, locals := 84 }
set_option maxHeartbeats 4000000 in
set_option maxRecDepth 100000 in
theorem c_X_lose1 (l : Launch) (E : xE) (hx h0 h1 ht hw hz : Nat) (sp : Bool) (a0 n p : Nat) (f : Nat → Int32) (j q : Nat) (hj : j < n) (hpj : p ≤ j) (hn : n ≤ 2640) (hq : 0 < q) (hq2 : q < 2147483648) (hb : ∀ i, i < n → f i = 0 ∨ f i = 1) : xC l E y_X_lose (.code y_X_lose prog_1_method_11_code 5 (some .int)) rm_X_lose1 [.ref hx, .int (nI 1), .int (nI (j)), .int (nI (q))] [(hx, .inr (4, [.ref h0, .ref h1, .ref ht, .ref hw, .ref hz, .int (bI sp)])), (h1, .inr (0, [.ref a0, .int (nI (n)), .int (nI (p))])), (a0, .inl (E.2 0, 2640, .inl (f)))] (xRet (some (.int (nI (min q (n - j))))) [(hx, .inr (4, [.ref h0, .ref h1, .ref ht, .ref hw, .ref hz, .int (bI sp)])), (h1, .inr (0, [.ref a0, .int (nI (n - min q (n - j))), .int (nI (p))])), (a0, .inl (E.2 0, 2640, .inl (va_cpy f f (j + min q (n - j)) j (n - (j + min q (n - j))))))]) := by
  refine x_of' (own := "LineCoder") (mn := "lose") (lv := [(0, .ref hx), (1, .int (nI 1)), (2, .int (nI (j))), (3, .int (nI (q)))]) (plainFor_of_name (by decide)) rfl rfl (Nat.le_of_ble_eq_true rfl) rfl ?_
  intro p_ e_ s_ m_ ar_ be_ me_ c_ A_ hA hB
  refine x_aload_n 1 hB d_X_lose_0 rfl rfl ?_
  refine x_iload_n 2 hB d_X_lose_1 rfl rfl ?_
  refine x_callP (k' := 0) (n' := 0) (rest := []) (st' := [.ref h1]) 5 hB (x_pfV (av := [.int (nI 1)]) (q0 := 0) hB w_490 xHd_code w_487 w_489 s_X_lineOf rfl rfl nm_X_lineOf rfl d_X_lose_2) (c_X_lineOf_1 l E hx h0 h1 ht hw hz sp) w_490 xHd_code w_1 [0] rfl rfl ⟨by decide, by decide⟩ ⟨by decide, by decide⟩ rfl rfl (Nat.le_of_ble_eq_true rfl) d_X_lose_2 rfl rfl ?_
  refine x_astore 7 hB d_X_lose_5 rfl (by decide) (lv' := [(4, .ref h1), (0, .ref hx), (1, .int (nI 1)), (2, .int (nI (j))), (3, .int (nI (q)))]) rfl ?_
  refine x_iload_n 8 hB d_X_lose_7 rfl rfl ?_
  refine x_if_ge 21 11 hB d_X_lose_8 (by decide) rfl (fun _ => ?_) (fun hc => absurd (nI_pos' hq2) hc)
  refine x_iload_n 22 hB d_X_lose_21 rfl rfl ?_
  refine x_aload 24 hB d_X_lose_22 rfl rfl ?_
  refine x_callP (k' := 0) (n' := 0) (rest := [.int (nI (j))]) (st' := [.int (nI (p)), .int (nI (j))]) 27 hB (x_pfV (av := []) (q0 := 1) hB w_534 xHd_code w_531 w_532 w_533 rfl rfl nm_L_place rfl d_X_lose_24) (c_L_place l E h1 a0 n p) w_534 xHd_code w_2 [1] rfl rfl ⟨by decide, by decide⟩ ⟨by decide, by decide⟩ rfl rfl (Nat.le_of_ble_eq_true rfl) d_X_lose_24 rfl rfl ?_
  refine x_icmp_ge 40 30 hB d_X_lose_27 (by decide) rfl (fun _ => ?_) (fun hc => absurd (nI_le hpj (by omega)) hc)
  refine x_aload 42 hB d_X_lose_40 rfl rfl ?_
  refine x_iload_n 43 hB d_X_lose_42 rfl rfl ?_
  refine x_iload_n 44 hB d_X_lose_43 rfl rfl ?_
  refine x_callD (k' := 0) (n' := 0) (rest := []) (wr := [(hx, .inr (4, [.ref h0, .ref h1, .ref ht, .ref hw, .ref hz, .int (bI sp)]))]) (ws' := [(hx, .inr (4, [.ref h0, .ref h1, .ref ht, .ref hw, .ref hz, .int (bI sp)])), (h1, .inr (0, [.ref a0, .int (nI (n - min q (n - j))), .int (nI (p))])), (a0, .inl (E.2 0, 2640, .inl (va_cpy f f (j + min q (n - j)) j (n - (j + min q (n - j))))))]) (st' := [.int (nI (min q (n - j)))]) 47 hB (x_pfV (av := [.int (nI (j)), .int (nI (q))]) (q0 := 1) hB w_539 xHd_code w_536 w_537 w_538 rfl rfl nm_L_remove rfl d_X_lose_44) (c_L_remove l E h1 a0 n p f j q hj hn hq hq2 hb) w_539 xHd_code w_2 [1, 2] [0] rfl rfl rfl rfl (by decide) ⟨by decide, by decide⟩ ⟨by decide, by decide⟩ rfl rfl (Nat.le_of_ble_eq_true rfl) d_X_lose_44 rfl rfl rfl ?_
  exact x_iret hB (w' := [(hx, .inr (4, [.ref h0, .ref h1, .ref ht, .ref hw, .ref hz, .int (bI sp)])), (h1, .inr (0, [.ref a0, .int (nI (n - min q (n - j))), .int (nI (p))])), (a0, .inl (E.2 0, 2640, .inl (va_cpy f f (j + min q (n - j)) j (n - (j + min q (n - j))))))]) hA [0, 1, 2] rfl rfl (xRet_i) (by decide) (by decide) d_X_lose_47
abbrev rm_X_lose1_z : Room := { frames := 2, cells := 0, slots := 0, locals := 45 }
set_option maxHeartbeats 4000000 in
set_option maxRecDepth 100000 in
theorem c_X_lose1_z (l : Launch) (E : xE) (hx h0 h1 ht hw hz : Nat) (sp : Bool) (a0 n p : Nat) (f : Nat → Int32) (j : Nat) (hj : j < n) (hpj : p ≤ j) (hn : n ≤ 2640) : xCp l E y_X_lose (.code y_X_lose prog_1_method_11_code 5 (some .int)) rm_X_lose1_z [.ref hx, .int (nI 1), .int (nI (j)), .int (nI (0))] [(hx, .inr (4, [.ref h0, .ref h1, .ref ht, .ref hw, .ref hz, .int (bI sp)])), (h1, .inr (0, [.ref a0, .int (nI (n)), .int (nI (p))])), (a0, .inl (E.2 0, 2640, .inl (f)))] (.inl (some (.int (nI 0)))) := by
  refine x_ofP (own := "LineCoder") (mn := "lose") (lv := [(0, .ref hx), (1, .int (nI 1)), (2, .int (nI (j))), (3, .int (nI (0)))]) (plainFor_of_name (by decide)) rfl rfl (Nat.le_of_ble_eq_true rfl) rfl ?_
  intro p_ e_ s_ m_ ar_ be_ me_ c_ hB
  refine x_aload_n 1 hB d_X_lose_0 rfl rfl ?_
  refine x_iload_n 2 hB d_X_lose_1 rfl rfl ?_
  refine x_callP (k' := 0) (n' := 0) (rest := []) (st' := [.ref h1]) 5 hB (x_pfV (av := [.int (nI 1)]) (q0 := 0) hB w_490 xHd_code w_487 w_489 s_X_lineOf rfl rfl nm_X_lineOf rfl d_X_lose_2) (c_X_lineOf_1 l E hx h0 h1 ht hw hz sp) w_490 xHd_code w_1 [0] rfl rfl ⟨by decide, by decide⟩ ⟨by decide, by decide⟩ rfl rfl (Nat.le_of_ble_eq_true rfl) d_X_lose_2 rfl rfl ?_
  refine x_astore 7 hB d_X_lose_5 rfl (by decide) (lv' := [(4, .ref h1), (0, .ref hx), (1, .int (nI 1)), (2, .int (nI (j))), (3, .int (nI (0)))]) rfl ?_
  refine x_iload_n 8 hB d_X_lose_7 rfl rfl ?_
  refine x_if_ge 21 11 hB d_X_lose_8 (by decide) rfl (fun _ => ?_) (fun hc => absurd (by decide) hc)
  refine x_iload_n 22 hB d_X_lose_21 rfl rfl ?_
  refine x_aload 24 hB d_X_lose_22 rfl rfl ?_
  refine x_callP (k' := 0) (n' := 0) (rest := [.int (nI (j))]) (st' := [.int (nI (p)), .int (nI (j))]) 27 hB (x_pfV (av := []) (q0 := 1) hB w_534 xHd_code w_531 w_532 w_533 rfl rfl nm_L_place rfl d_X_lose_24) (c_L_place l E h1 a0 n p) w_534 xHd_code w_2 [1] rfl rfl ⟨by decide, by decide⟩ ⟨by decide, by decide⟩ rfl rfl (Nat.le_of_ble_eq_true rfl) d_X_lose_24 rfl rfl ?_
  refine x_icmp_ge 40 30 hB d_X_lose_27 (by decide) rfl (fun _ => ?_) (fun hc => absurd (nI_le hpj (by omega)) hc)
  refine x_aload 42 hB d_X_lose_40 rfl rfl ?_
  refine x_iload_n 43 hB d_X_lose_42 rfl rfl ?_
  refine x_iload_n 44 hB d_X_lose_43 rfl rfl ?_
  refine x_callP (k' := 0) (n' := 0) (rest := []) (st' := [.int (nI 0)]) 47 hB (x_pfV (av := [.int (nI (j)), .int (nI (0))]) (q0 := 1) hB w_539 xHd_code w_536 w_537 w_538 rfl rfl nm_L_remove rfl d_X_lose_44) (c_L_remove_z l E h1 a0 n p f j hj hn) w_539 xHd_code w_2 [1, 2] rfl rfl ⟨by decide, by decide⟩ ⟨by decide, by decide⟩ rfl rfl (Nat.le_of_ble_eq_true rfl) d_X_lose_44 rfl rfl ?_
  exact x_iretP hB (rfl) (by decide) (by decide) d_X_lose_47
abbrev rm_X_lose1_o : Room := { frames := 2, cells := 0, slots := 0, locals := 45 }
set_option maxHeartbeats 4000000 in
set_option maxRecDepth 100000 in
theorem c_X_lose1_o (l : Launch) (E : xE) (hx h0 h1 ht hw hz : Nat) (sp : Bool) (a0 n p : Nat) (f : Nat → Int32) (k z : Int32) (hz9 : 0 ≤ z) (hk : nI n ≤ k) (hpk : nI p ≤ k) : xCp l E y_X_lose (.code y_X_lose prog_1_method_11_code 5 (some .int)) rm_X_lose1_o [.ref hx, .int (nI 1), .int (k), .int (z)] [(hx, .inr (4, [.ref h0, .ref h1, .ref ht, .ref hw, .ref hz, .int (bI sp)])), (h1, .inr (0, [.ref a0, .int (nI (n)), .int (nI (p))])), (a0, .inl (E.2 0, 2640, .inl (f)))] (.inl (some (.int (nI 0)))) := by
  refine x_ofP (own := "LineCoder") (mn := "lose") (lv := [(0, .ref hx), (1, .int (nI 1)), (2, .int (k)), (3, .int (z))]) (plainFor_of_name (by decide)) rfl rfl (Nat.le_of_ble_eq_true rfl) rfl ?_
  intro p_ e_ s_ m_ ar_ be_ me_ c_ hB
  refine x_aload_n 1 hB d_X_lose_0 rfl rfl ?_
  refine x_iload_n 2 hB d_X_lose_1 rfl rfl ?_
  refine x_callP (k' := 0) (n' := 0) (rest := []) (st' := [.ref h1]) 5 hB (x_pfV (av := [.int (nI 1)]) (q0 := 0) hB w_490 xHd_code w_487 w_489 s_X_lineOf rfl rfl nm_X_lineOf rfl d_X_lose_2) (c_X_lineOf_1 l E hx h0 h1 ht hw hz sp) w_490 xHd_code w_1 [0] rfl rfl ⟨by decide, by decide⟩ ⟨by decide, by decide⟩ rfl rfl (Nat.le_of_ble_eq_true rfl) d_X_lose_2 rfl rfl ?_
  refine x_astore 7 hB d_X_lose_5 rfl (by decide) (lv' := [(4, .ref h1), (0, .ref hx), (1, .int (nI 1)), (2, .int (k)), (3, .int (z))]) rfl ?_
  refine x_iload_n 8 hB d_X_lose_7 rfl rfl ?_
  refine x_if_ge 21 11 hB d_X_lose_8 (by decide) rfl (fun _ => ?_) (fun hc => absurd (hz9) hc)
  refine x_iload_n 22 hB d_X_lose_21 rfl rfl ?_
  refine x_aload 24 hB d_X_lose_22 rfl rfl ?_
  refine x_callP (k' := 0) (n' := 0) (rest := [.int (k)]) (st' := [.int (nI (p)), .int (k)]) 27 hB (x_pfV (av := []) (q0 := 1) hB w_534 xHd_code w_531 w_532 w_533 rfl rfl nm_L_place rfl d_X_lose_24) (c_L_place l E h1 a0 n p) w_534 xHd_code w_2 [1] rfl rfl ⟨by decide, by decide⟩ ⟨by decide, by decide⟩ rfl rfl (Nat.le_of_ble_eq_true rfl) d_X_lose_24 rfl rfl ?_
  refine x_icmp_ge 40 30 hB d_X_lose_27 (by decide) rfl (fun _ => ?_) (fun hc => absurd (hpk) hc)
  refine x_aload 42 hB d_X_lose_40 rfl rfl ?_
  refine x_iload_n 43 hB d_X_lose_42 rfl rfl ?_
  refine x_iload_n 44 hB d_X_lose_43 rfl rfl ?_
  refine x_callP (k' := 0) (n' := 0) (rest := []) (st' := [.int (nI 0)]) 47 hB (x_pfV (av := [.int (k), .int (z)]) (q0 := 1) hB w_539 xHd_code w_536 w_537 w_538 rfl rfl nm_L_remove rfl d_X_lose_44) (c_L_remove_out l E h1 a0 n p f k z (Or.inr hk)) w_539 xHd_code w_2 [1, 2] rfl rfl ⟨by decide, by decide⟩ ⟨by decide, by decide⟩ rfl rfl (Nat.le_of_ble_eq_true rfl) d_X_lose_44 rfl rfl ?_
  exact x_iretP hB (rfl) (by decide) (by decide) d_X_lose_47
abbrev rm_X_lose1_m : Room := { frames := 6, cells := 1, slots := 6, locals := 83 }
set_option maxHeartbeats 4000000 in
set_option maxRecDepth 100000 in
theorem c_X_lose1_m (l : Launch) (E : xE) (hT : xNoTr l) (hx h0 h1 ht hw hz : Nat) (sp : Bool) (k z : Int32) (hz9 : ¬ 0 ≤ z) : xCp l E y_X_lose (.code y_X_lose prog_1_method_11_code 5 (some .int)) rm_X_lose1_m [.ref hx, .int (nI 1), .int (k), .int (z)] [(hx, .inr (4, [.ref h0, .ref h1, .ref ht, .ref hw, .ref hz, .int (bI sp)]))] (.inr "java/lang/IllegalArgumentException") := by
  refine x_ofP (own := "LineCoder") (mn := "lose") (lv := [(0, .ref hx), (1, .int (nI 1)), (2, .int (k)), (3, .int (z))]) (plainFor_of_name (by decide)) rfl rfl (Nat.le_of_ble_eq_true rfl) rfl ?_
  intro p_ e_ s_ m_ ar_ be_ me_ c_ hB
  refine x_aload_n 1 hB d_X_lose_0 rfl rfl ?_
  refine x_iload_n 2 hB d_X_lose_1 rfl rfl ?_
  refine x_callP (k' := 0) (n' := 0) (rest := []) (st' := [.ref h1]) 5 hB (x_pfV (av := [.int (nI 1)]) (q0 := 0) hB w_490 xHd_code w_487 w_489 s_X_lineOf rfl rfl nm_X_lineOf rfl d_X_lose_2) (c_X_lineOf_1 l E hx h0 h1 ht hw hz sp) w_490 xHd_code w_1 [0] rfl rfl ⟨by decide, by decide⟩ ⟨by decide, by decide⟩ rfl rfl (Nat.le_of_ble_eq_true rfl) d_X_lose_2 rfl rfl ?_
  refine x_astore 7 hB d_X_lose_5 rfl (by decide) (lv' := [(4, .ref h1), (0, .ref hx), (1, .int (nI 1)), (2, .int (k)), (3, .int (z))]) rfl ?_
  refine x_iload_n 8 hB d_X_lose_7 rfl rfl ?_
  refine x_if_ge 21 11 hB d_X_lose_8 (by decide) rfl (fun hc => absurd hc (hz9)) (fun _ => ?_)
  exact x_throw hT hB ["java/lang/RuntimeException", "java/lang/Exception"] w_352 w_353 w_12 w_530 tw_X_60 (by decide) (by decide) (by decide) (by decide) ⟨by decide, by decide⟩ (by decide) (by decide) (by decide) d_X_lose_11 d_X_lose_14 d_X_lose_15 d_X_lose_17 d_X_lose_20
abbrev rm_X_lose1_p : Room := { frames := 6, cells := 1, slots := 6, locals := 83 }
set_option maxHeartbeats 4000000 in
set_option maxRecDepth 100000 in
theorem c_X_lose1_p (l : Launch) (E : xE) (hT : xNoTr l) (hx h0 h1 ht hw hz : Nat) (sp : Bool) (a0 n p : Nat) (k z : Int32) (hz9 : 0 ≤ z) (hpk : ¬ nI p ≤ k) : xCp l E y_X_lose (.code y_X_lose prog_1_method_11_code 5 (some .int)) rm_X_lose1_p [.ref hx, .int (nI 1), .int (k), .int (z)] [(hx, .inr (4, [.ref h0, .ref h1, .ref ht, .ref hw, .ref hz, .int (bI sp)])), (h1, .inr (0, [.ref a0, .int (nI (n)), .int (nI (p))]))] (.inr "java/lang/IllegalArgumentException") := by
  refine x_ofP (own := "LineCoder") (mn := "lose") (lv := [(0, .ref hx), (1, .int (nI 1)), (2, .int (k)), (3, .int (z))]) (plainFor_of_name (by decide)) rfl rfl (Nat.le_of_ble_eq_true rfl) rfl ?_
  intro p_ e_ s_ m_ ar_ be_ me_ c_ hB
  refine x_aload_n 1 hB d_X_lose_0 rfl rfl ?_
  refine x_iload_n 2 hB d_X_lose_1 rfl rfl ?_
  refine x_callP (k' := 0) (n' := 0) (rest := []) (st' := [.ref h1]) 5 hB (x_pfV (av := [.int (nI 1)]) (q0 := 0) hB w_490 xHd_code w_487 w_489 s_X_lineOf rfl rfl nm_X_lineOf rfl d_X_lose_2) (c_X_lineOf_1 l E hx h0 h1 ht hw hz sp) w_490 xHd_code w_1 [0] rfl rfl ⟨by decide, by decide⟩ ⟨by decide, by decide⟩ rfl rfl (Nat.le_of_ble_eq_true rfl) d_X_lose_2 rfl rfl ?_
  refine x_astore 7 hB d_X_lose_5 rfl (by decide) (lv' := [(4, .ref h1), (0, .ref hx), (1, .int (nI 1)), (2, .int (k)), (3, .int (z))]) rfl ?_
  refine x_iload_n 8 hB d_X_lose_7 rfl rfl ?_
  refine x_if_ge 21 11 hB d_X_lose_8 (by decide) rfl (fun _ => ?_) (fun hc => absurd (hz9) hc)
  refine x_iload_n 22 hB d_X_lose_21 rfl rfl ?_
  refine x_aload 24 hB d_X_lose_22 rfl rfl ?_
  refine x_callP (k' := 0) (n' := 0) (rest := [.int (k)]) (st' := [.int (nI (p)), .int (k)]) 27 hB (x_pfV (av := []) (q0 := 1) hB w_534 xHd_code w_531 w_532 w_533 rfl rfl nm_L_place rfl d_X_lose_24) (c_L_place l E h1 a0 n p) w_534 xHd_code w_2 [1] rfl rfl ⟨by decide, by decide⟩ ⟨by decide, by decide⟩ rfl rfl (Nat.le_of_ble_eq_true rfl) d_X_lose_24 rfl rfl ?_
  refine x_icmp_ge 40 30 hB d_X_lose_27 (by decide) rfl (fun hc => absurd hc (hpk)) (fun _ => ?_)
  exact x_throw hT hB ["java/lang/RuntimeException", "java/lang/Exception"] w_352 w_353 w_12 w_535 tw_X_60 (by decide) (by decide) (by decide) (by decide) ⟨by decide, by decide⟩ (by decide) (by decide) (by decide) d_X_lose_30 d_X_lose_33 d_X_lose_34 d_X_lose_36 d_X_lose_39
abbrev rm_X_bit1 : Room := { frames := 2, cells := 0, slots := 0, locals := 42 }
set_option maxHeartbeats 4000000 in
set_option maxRecDepth 100000 in
theorem c_X_bit1 (l : Launch) (E : xE) (hx h0 h1 ht hw hz : Nat) (sp : Bool) (a0 n p : Nat) (f : Nat → Int32) (j : Nat) (hj : j < n) (hn : n ≤ 2640) : xCp l E y_X_bit (.code y_X_bit prog_1_method_12_code 3 (some .int)) rm_X_bit1 [.ref hx, .int (nI 1), .int (nI (j))] [(hx, .inr (4, [.ref h0, .ref h1, .ref ht, .ref hw, .ref hz, .int (bI sp)])), (h1, .inr (0, [.ref a0, .int (nI (n)), .int (nI (p))])), (a0, .inl (E.2 0, 2640, .inl (f)))] (.inl (some (.int ((f) (j))))) := by
  refine x_ofP (own := "LineCoder") (mn := "bit") (lv := [(0, .ref hx), (1, .int (nI 1)), (2, .int (nI (j)))]) (plainFor_of_name (by decide)) rfl rfl (Nat.le_of_ble_eq_true rfl) rfl ?_
  intro p_ e_ s_ m_ ar_ be_ me_ c_ hB
  refine x_aload_n 1 hB d_X_bit_0 rfl rfl ?_
  refine x_iload_n 2 hB d_X_bit_1 rfl rfl ?_
  refine x_callP (k' := 0) (n' := 0) (rest := []) (st' := [.ref h1]) 5 hB (x_pfV (av := [.int (nI 1)]) (q0 := 0) hB w_490 xHd_code w_487 w_489 s_X_lineOf rfl rfl nm_X_lineOf rfl d_X_bit_2) (c_X_lineOf_1 l E hx h0 h1 ht hw hz sp) w_490 xHd_code w_1 [0] rfl rfl ⟨by decide, by decide⟩ ⟨by decide, by decide⟩ rfl rfl (Nat.le_of_ble_eq_true rfl) d_X_bit_2 rfl rfl ?_
  refine x_iload_n 6 hB d_X_bit_5 rfl rfl ?_
  refine x_callP (k' := 0) (n' := 0) (rest := []) (st' := [.int ((f) (j))]) 9 hB (x_pfV (av := [.int (nI (j))]) (q0 := 1) hB w_173 xHd_code w_522 w_171 w_172 rfl rfl nm_L_at rfl d_X_bit_6) (c_L_at_in l E h1 a0 n p f j hj hn) w_173 xHd_code w_2 [1, 2] rfl rfl ⟨by decide, by decide⟩ ⟨by decide, by decide⟩ rfl rfl (Nat.le_of_ble_eq_true rfl) d_X_bit_6 rfl rfl ?_
  exact x_iretP hB (rfl) (by decide) (by decide) d_X_bit_9
abbrev rm_X_bit1_o : Room := { frames := 2, cells := 0, slots := 0, locals := 42 }
set_option maxHeartbeats 4000000 in
set_option maxRecDepth 100000 in
theorem c_X_bit1_o (l : Launch) (E : xE) (hx h0 h1 ht hw hz : Nat) (sp : Bool) (a0 n p : Nat) (f : Nat → Int32) (k : Int32) (hk : k < 0 ∨ nI n ≤ k) : xCp l E y_X_bit (.code y_X_bit prog_1_method_12_code 3 (some .int)) rm_X_bit1_o [.ref hx, .int (nI 1), .int (k)] [(hx, .inr (4, [.ref h0, .ref h1, .ref ht, .ref hw, .ref hz, .int (bI sp)])), (h1, .inr (0, [.ref a0, .int (nI (n)), .int (nI (p))])), (a0, .inl (E.2 0, 2640, .inl (f)))] (.inl (some (.int (-1)))) := by
  refine x_ofP (own := "LineCoder") (mn := "bit") (lv := [(0, .ref hx), (1, .int (nI 1)), (2, .int (k))]) (plainFor_of_name (by decide)) rfl rfl (Nat.le_of_ble_eq_true rfl) rfl ?_
  intro p_ e_ s_ m_ ar_ be_ me_ c_ hB
  refine x_aload_n 1 hB d_X_bit_0 rfl rfl ?_
  refine x_iload_n 2 hB d_X_bit_1 rfl rfl ?_
  refine x_callP (k' := 0) (n' := 0) (rest := []) (st' := [.ref h1]) 5 hB (x_pfV (av := [.int (nI 1)]) (q0 := 0) hB w_490 xHd_code w_487 w_489 s_X_lineOf rfl rfl nm_X_lineOf rfl d_X_bit_2) (c_X_lineOf_1 l E hx h0 h1 ht hw hz sp) w_490 xHd_code w_1 [0] rfl rfl ⟨by decide, by decide⟩ ⟨by decide, by decide⟩ rfl rfl (Nat.le_of_ble_eq_true rfl) d_X_bit_2 rfl rfl ?_
  refine x_iload_n 6 hB d_X_bit_5 rfl rfl ?_
  refine x_callP (k' := 0) (n' := 0) (rest := []) (st' := [.int (-1)]) 9 hB (x_pfV (av := [.int (k)]) (q0 := 1) hB w_173 xHd_code w_522 w_171 w_172 rfl rfl nm_L_at rfl d_X_bit_6) (c_L_at_out l E h1 a0 n p f k hk) w_173 xHd_code w_2 [1, 2] rfl rfl ⟨by decide, by decide⟩ ⟨by decide, by decide⟩ rfl rfl (Nat.le_of_ble_eq_true rfl) d_X_bit_6 rfl rfl ?_
  exact x_iretP hB (rfl) (by decide) (by decide) d_X_bit_9
abbrev rm_X_count1_0 : Room := { frames := 1, cells := 0, slots := 0, locals := 21 }
set_option maxHeartbeats 4000000 in
set_option maxRecDepth 100000 in
theorem c_X_count1_0 (l : Launch) (E : xE) (hx h0 h1 ht hw hz : Nat) (sp : Bool) (a0 n p : Nat) (f : Nat → Int32) (hs : Nat) (fo : Bool) (sl bd wr gr : Nat) (la : Int32) (last : Int64) (hn : n ≤ 2640) : xCp l E y_X_count (.code y_X_count prog_1_method_13_code 5 (some .int)) rm_X_count1_0 [.ref hx, .int (nI 1), .int (nI 0)] [(hx, .inr (4, [.ref h0, .ref h1, .ref ht, .ref hw, .ref hz, .int (bI sp)])), (h1, .inr (0, [.ref a0, .int (nI (n)), .int (nI (p))])), (a0, .inl (E.2 0, 2640, .inl (f))), (hw, .inr (3, [.ref h1, .int (bI fo), .int (nI (sl)), .int (nI (bd)), .int (nI (wr)), .ref hs, .int (nI (gr)), .int (la), .long (last)]))] (.inl (some (.int (nI (n))))) := by
  refine x_ofP (own := "LineCoder") (mn := "count") (lv := [(0, .ref hx), (1, .int (nI 1)), (2, .int (nI 0))]) (plainFor_of_name (by decide)) rfl rfl (Nat.le_of_ble_eq_true rfl) rfl ?_
  intro p_ e_ s_ m_ ar_ be_ me_ c_ hB
  refine x_aload_n 1 hB d_X_count_0 rfl rfl ?_
  refine x_iload_n 2 hB d_X_count_1 rfl rfl ?_
  refine x_callP (k' := 0) (n' := 0) (rest := []) (st' := [.ref h1]) 5 hB (x_pfV (av := [.int (nI 1)]) (q0 := 0) hB w_490 xHd_code w_487 w_489 s_X_lineOf rfl rfl nm_X_lineOf rfl d_X_count_2) (c_X_lineOf_1 l E hx h0 h1 ht hw hz sp) w_490 xHd_code w_1 [0] rfl rfl ⟨by decide, by decide⟩ ⟨by decide, by decide⟩ rfl rfl (Nat.le_of_ble_eq_true rfl) d_X_count_2 rfl rfl ?_
  refine x_astore_n 6 hB d_X_count_5 rfl (by decide) (lv' := [(3, .ref h1), (0, .ref hx), (1, .int (nI 1)), (2, .int (nI 0))]) rfl ?_
  refine x_iload_n 7 hB d_X_count_6 rfl rfl ?_
  refine x_if_ne 17 10 hB d_X_count_7 (by decide) rfl (fun _ => ?_) (fun hc => absurd hc (by decide))
  refine x_aload_n 18 hB d_X_count_17 rfl rfl ?_
  refine x_get 21 hB 0 fg_X_31_4 rfl rfl d_X_count_18 rfl ?_
  refine x_astore 23 hB d_X_count_21 rfl (by decide) (lv' := [(4, .ref hw), (3, .ref h1), (0, .ref hx), (1, .int (nI 1)), (2, .int (nI 0))]) rfl ?_
  refine x_iload_n 24 hB d_X_count_23 rfl rfl ?_
  refine x_tabIn 76 hB d_X_count_24 (by decide) (by decide) (off := 52) (by decide) (by decide) ?_
  refine x_aload_n 77 hB d_X_count_76 rfl rfl ?_
  refine x_callP (k' := 0) (n' := 0) (rest := []) (st' := [.int (nI (n))]) 80 hB (x_pfV (av := []) (q0 := 1) hB w_479 xHd_code w_476 w_477 w_478 rfl rfl nm_L_size rfl d_X_count_77) (c_L_size l E h1 a0 n p) w_479 xHd_code w_2 [1] rfl rfl ⟨by decide, by decide⟩ ⟨by decide, by decide⟩ rfl rfl (Nat.le_of_ble_eq_true rfl) d_X_count_77 rfl rfl ?_
  exact x_iretP hB (rfl) (by decide) (by decide) d_X_count_80
abbrev rm_X_count1_1 : Room := { frames := 1, cells := 0, slots := 0, locals := 21 }
set_option maxHeartbeats 4000000 in
set_option maxRecDepth 100000 in
theorem c_X_count1_1 (l : Launch) (E : xE) (hx h0 h1 ht hw hz : Nat) (sp : Bool) (a0 n p : Nat) (f : Nat → Int32) (hs : Nat) (fo : Bool) (sl bd wr gr : Nat) (la : Int32) (last : Int64) (hn : n ≤ 2640) : xCp l E y_X_count (.code y_X_count prog_1_method_13_code 5 (some .int)) rm_X_count1_1 [.ref hx, .int (nI 1), .int (nI 1)] [(hx, .inr (4, [.ref h0, .ref h1, .ref ht, .ref hw, .ref hz, .int (bI sp)])), (h1, .inr (0, [.ref a0, .int (nI (n)), .int (nI (p))])), (a0, .inl (E.2 0, 2640, .inl (f))), (hw, .inr (3, [.ref h1, .int (bI fo), .int (nI (sl)), .int (nI (bd)), .int (nI (wr)), .ref hs, .int (nI (gr)), .int (la), .long (last)]))] (.inl (some (.int (nI (p))))) := by
  refine x_ofP (own := "LineCoder") (mn := "count") (lv := [(0, .ref hx), (1, .int (nI 1)), (2, .int (nI 1))]) (plainFor_of_name (by decide)) rfl rfl (Nat.le_of_ble_eq_true rfl) rfl ?_
  intro p_ e_ s_ m_ ar_ be_ me_ c_ hB
  refine x_aload_n 1 hB d_X_count_0 rfl rfl ?_
  refine x_iload_n 2 hB d_X_count_1 rfl rfl ?_
  refine x_callP (k' := 0) (n' := 0) (rest := []) (st' := [.ref h1]) 5 hB (x_pfV (av := [.int (nI 1)]) (q0 := 0) hB w_490 xHd_code w_487 w_489 s_X_lineOf rfl rfl nm_X_lineOf rfl d_X_count_2) (c_X_lineOf_1 l E hx h0 h1 ht hw hz sp) w_490 xHd_code w_1 [0] rfl rfl ⟨by decide, by decide⟩ ⟨by decide, by decide⟩ rfl rfl (Nat.le_of_ble_eq_true rfl) d_X_count_2 rfl rfl ?_
  refine x_astore_n 6 hB d_X_count_5 rfl (by decide) (lv' := [(3, .ref h1), (0, .ref hx), (1, .int (nI 1)), (2, .int (nI 1))]) rfl ?_
  refine x_iload_n 7 hB d_X_count_6 rfl rfl ?_
  refine x_if_ne 17 10 hB d_X_count_7 (by decide) rfl (fun _ => ?_) (fun hc => absurd hc (by decide))
  refine x_aload_n 18 hB d_X_count_17 rfl rfl ?_
  refine x_get 21 hB 0 fg_X_31_4 rfl rfl d_X_count_18 rfl ?_
  refine x_astore 23 hB d_X_count_21 rfl (by decide) (lv' := [(4, .ref hw), (3, .ref h1), (0, .ref hx), (1, .int (nI 1)), (2, .int (nI 1))]) rfl ?_
  refine x_iload_n 24 hB d_X_count_23 rfl rfl ?_
  refine x_tabIn 81 hB d_X_count_24 (by decide) (by decide) (off := 57) (by decide) (by decide) ?_
  refine x_aload_n 82 hB d_X_count_81 rfl rfl ?_
  refine x_callP (k' := 0) (n' := 0) (rest := []) (st' := [.int (nI (p))]) 85 hB (x_pfV (av := []) (q0 := 1) hB w_534 xHd_code w_531 w_532 w_533 rfl rfl nm_L_place rfl d_X_count_82) (c_L_place l E h1 a0 n p) w_534 xHd_code w_2 [1] rfl rfl ⟨by decide, by decide⟩ ⟨by decide, by decide⟩ rfl rfl (Nat.le_of_ble_eq_true rfl) d_X_count_82 rfl rfl ?_
  exact x_iretP hB (rfl) (by decide) (by decide) d_X_count_85
abbrev rm_X_count1_2 : Room := { frames := 1, cells := 0, slots := 0, locals := 21 }
set_option maxHeartbeats 4000000 in
set_option maxRecDepth 100000 in
theorem c_X_count1_2 (l : Launch) (E : xE) (hx h0 h1 ht hw hz : Nat) (sp : Bool) (a0 n p : Nat) (f : Nat → Int32) (hs : Nat) (fo : Bool) (sl bd wr gr : Nat) (la : Int32) (last : Int64) (hn : n ≤ 2640) : xCp l E y_X_count (.code y_X_count prog_1_method_13_code 5 (some .int)) rm_X_count1_2 [.ref hx, .int (nI 1), .int (nI 2)] [(hx, .inr (4, [.ref h0, .ref h1, .ref ht, .ref hw, .ref hz, .int (bI sp)])), (h1, .inr (0, [.ref a0, .int (nI (n)), .int (nI (p))])), (a0, .inl (E.2 0, 2640, .inl (f))), (hw, .inr (3, [.ref h1, .int (bI fo), .int (nI (sl)), .int (nI (bd)), .int (nI (wr)), .ref hs, .int (nI (gr)), .int (la), .long (last)]))] (.inl (some (.int (bI fo)))) := by
  refine x_ofP (own := "LineCoder") (mn := "count") (lv := [(0, .ref hx), (1, .int (nI 1)), (2, .int (nI 2))]) (plainFor_of_name (by decide)) rfl rfl (Nat.le_of_ble_eq_true rfl) rfl ?_
  intro p_ e_ s_ m_ ar_ be_ me_ c_ hB
  refine x_aload_n 1 hB d_X_count_0 rfl rfl ?_
  refine x_iload_n 2 hB d_X_count_1 rfl rfl ?_
  refine x_callP (k' := 0) (n' := 0) (rest := []) (st' := [.ref h1]) 5 hB (x_pfV (av := [.int (nI 1)]) (q0 := 0) hB w_490 xHd_code w_487 w_489 s_X_lineOf rfl rfl nm_X_lineOf rfl d_X_count_2) (c_X_lineOf_1 l E hx h0 h1 ht hw hz sp) w_490 xHd_code w_1 [0] rfl rfl ⟨by decide, by decide⟩ ⟨by decide, by decide⟩ rfl rfl (Nat.le_of_ble_eq_true rfl) d_X_count_2 rfl rfl ?_
  refine x_astore_n 6 hB d_X_count_5 rfl (by decide) (lv' := [(3, .ref h1), (0, .ref hx), (1, .int (nI 1)), (2, .int (nI 2))]) rfl ?_
  refine x_iload_n 7 hB d_X_count_6 rfl rfl ?_
  refine x_if_ne 17 10 hB d_X_count_7 (by decide) rfl (fun _ => ?_) (fun hc => absurd hc (by decide))
  refine x_aload_n 18 hB d_X_count_17 rfl rfl ?_
  refine x_get 21 hB 0 fg_X_31_4 rfl rfl d_X_count_18 rfl ?_
  refine x_astore 23 hB d_X_count_21 rfl (by decide) (lv' := [(4, .ref hw), (3, .ref h1), (0, .ref hx), (1, .int (nI 1)), (2, .int (nI 2))]) rfl ?_
  refine x_iload_n 24 hB d_X_count_23 rfl rfl ?_
  refine x_tabIn 86 hB d_X_count_24 (by decide) (by decide) (off := 62) (by decide) (by decide) ?_
  refine x_aload 88 hB d_X_count_86 rfl rfl ?_
  refine x_callP (k' := 0) (n' := 0) (rest := []) (st' := [.int (bI fo)]) 91 hB (x_pfU (av := []) (q0 := 3) (x := ⟨"LineCoder$Receiver", "isFollowing", "()Z"⟩) (owner := "LineCoder$Receiver") hB w_562 xHd_code w_557 w_559 (va_Decl.of (hB.qt _ w_558) (hB.qt _ w_562)) w_558 w_561 rfl rfl (by decide) ⟨⟨by decide +kernel, by decide +kernel⟩, by decide +kernel⟩ rfl d_X_count_88) (c_R_isFollowing_W l E hw h1 hs fo sl bd wr gr la last) w_562 xHd_code w_3 [3] rfl rfl ⟨by decide, by decide⟩ ⟨by decide, by decide⟩ rfl rfl (Nat.le_of_ble_eq_true rfl) d_X_count_88 rfl rfl ?_
  refine x_if_eq 98 94 hB d_X_count_91 (by decide) rfl (fun h91 => ?_) (fun h91 => ?_)
  · skip
    have k91 : fo = false := bI_0 h91
    refine x_iconst (v := nI 0) 99 hB d_X_count_98 rfl (by decide) ?_
    exact x_iretP hB (sVe (bF0 k91)) (by decide) (by decide) d_X_count_99
  · skip
    have k91 : fo = true := bI_1 h91
    refine x_iconst (v := nI 1) 95 hB d_X_count_94 rfl (by decide) ?_
    refine x_goto 99 hB d_X_count_95 (by decide) ?_
    exact x_iretP hB (sVe (bT k91)) (by decide) (by decide) d_X_count_99
abbrev rm_X_count1_3 : Room := { frames := 2, cells := 0, slots := 0, locals := 40 }
set_option maxHeartbeats 4000000 in
set_option maxRecDepth 100000 in
theorem c_X_count1_3 (l : Launch) (E : xE) (hx h0 h1 ht hw hz : Nat) (sp : Bool) (a0 n p : Nat) (f : Nat → Int32) (hs : Nat) (fo : Bool) (sl bd wr gr : Nat) (la : Int32) (last : Int64) (hn : n ≤ 2640) : xCp l E y_X_count (.code y_X_count prog_1_method_13_code 5 (some .int)) rm_X_count1_3 [.ref hx, .int (nI 1), .int (nI 3)] [(hx, .inr (4, [.ref h0, .ref h1, .ref ht, .ref hw, .ref hz, .int (bI sp)])), (h1, .inr (0, [.ref a0, .int (nI (n)), .int (nI (p))])), (a0, .inl (E.2 0, 2640, .inl (f))), (hw, .inr (3, [.ref h1, .int (bI fo), .int (nI (sl)), .int (nI (bd)), .int (nI (wr)), .ref hs, .int (nI (gr)), .int (la), .long (last)]))] (.inl (some (.int (if fo then bcF la else nI gr)))) := by
  refine x_ofP (own := "LineCoder") (mn := "count") (lv := [(0, .ref hx), (1, .int (nI 1)), (2, .int (nI 3))]) (plainFor_of_name (by decide)) rfl rfl (Nat.le_of_ble_eq_true rfl) rfl ?_
  intro p_ e_ s_ m_ ar_ be_ me_ c_ hB
  refine x_aload_n 1 hB d_X_count_0 rfl rfl ?_
  refine x_iload_n 2 hB d_X_count_1 rfl rfl ?_
  refine x_callP (k' := 0) (n' := 0) (rest := []) (st' := [.ref h1]) 5 hB (x_pfV (av := [.int (nI 1)]) (q0 := 0) hB w_490 xHd_code w_487 w_489 s_X_lineOf rfl rfl nm_X_lineOf rfl d_X_count_2) (c_X_lineOf_1 l E hx h0 h1 ht hw hz sp) w_490 xHd_code w_1 [0] rfl rfl ⟨by decide, by decide⟩ ⟨by decide, by decide⟩ rfl rfl (Nat.le_of_ble_eq_true rfl) d_X_count_2 rfl rfl ?_
  refine x_astore_n 6 hB d_X_count_5 rfl (by decide) (lv' := [(3, .ref h1), (0, .ref hx), (1, .int (nI 1)), (2, .int (nI 3))]) rfl ?_
  refine x_iload_n 7 hB d_X_count_6 rfl rfl ?_
  refine x_if_ne 17 10 hB d_X_count_7 (by decide) rfl (fun _ => ?_) (fun hc => absurd hc (by decide))
  refine x_aload_n 18 hB d_X_count_17 rfl rfl ?_
  refine x_get 21 hB 0 fg_X_31_4 rfl rfl d_X_count_18 rfl ?_
  refine x_astore 23 hB d_X_count_21 rfl (by decide) (lv' := [(4, .ref hw), (3, .ref h1), (0, .ref hx), (1, .int (nI 1)), (2, .int (nI 3))]) rfl ?_
  refine x_iload_n 24 hB d_X_count_23 rfl rfl ?_
  refine x_tabIn 100 hB d_X_count_24 (by decide) (by decide) (off := 76) (by decide) (by decide) ?_
  refine x_aload 102 hB d_X_count_100 rfl rfl ?_
  refine x_callP (k' := 0) (n' := 0) (rest := []) (st' := [.int (if fo then bcF la else nI gr)]) 105 hB (x_pfU (av := []) (q0 := 3) (x := ⟨"LineCoder$Receiver", "marks", "()I"⟩) (owner := "LineCoder$Receiver") hB w_571 xHd_code w_563 w_565 (va_Decl.abs (va_Nw.of rfl (hB.qt _ w_564))) w_570 w_569 rfl rfl (by decide) ⟨⟨by decide +kernel, by decide +kernel⟩, by decide +kernel⟩ rfl d_X_count_102) (c_W_marks l E hw h1 hs fo sl bd wr gr la last) w_571 xHd_code w_5 [3] rfl rfl ⟨by decide, by decide⟩ ⟨by decide, by decide⟩ rfl rfl (Nat.le_of_ble_eq_true rfl) d_X_count_102 rfl rfl ?_
  exact x_iretP hB (rfl) (by decide) (by decide) d_X_count_105
abbrev rm_X_count1_4 : Room := { frames := 1, cells := 0, slots := 0, locals := 21 }
set_option maxHeartbeats 4000000 in
set_option maxRecDepth 100000 in
theorem c_X_count1_4 (l : Launch) (E : xE) (hx h0 h1 ht hw hz : Nat) (sp : Bool) (a0 n p : Nat) (f : Nat → Int32) (hs : Nat) (fo : Bool) (sl bd wr gr : Nat) (la : Int32) (last : Int64) (hn : n ≤ 2640) : xCp l E y_X_count (.code y_X_count prog_1_method_13_code 5 (some .int)) rm_X_count1_4 [.ref hx, .int (nI 1), .int (nI 4)] [(hx, .inr (4, [.ref h0, .ref h1, .ref ht, .ref hw, .ref hz, .int (bI sp)])), (h1, .inr (0, [.ref a0, .int (nI (n)), .int (nI (p))])), (a0, .inl (E.2 0, 2640, .inl (f))), (hw, .inr (3, [.ref h1, .int (bI fo), .int (nI (sl)), .int (nI (bd)), .int (nI (wr)), .ref hs, .int (nI (gr)), .int (la), .long (last)]))] (.inl (some (.int (nI (sl))))) := by
  refine x_ofP (own := "LineCoder") (mn := "count") (lv := [(0, .ref hx), (1, .int (nI 1)), (2, .int (nI 4))]) (plainFor_of_name (by decide)) rfl rfl (Nat.le_of_ble_eq_true rfl) rfl ?_
  intro p_ e_ s_ m_ ar_ be_ me_ c_ hB
  refine x_aload_n 1 hB d_X_count_0 rfl rfl ?_
  refine x_iload_n 2 hB d_X_count_1 rfl rfl ?_
  refine x_callP (k' := 0) (n' := 0) (rest := []) (st' := [.ref h1]) 5 hB (x_pfV (av := [.int (nI 1)]) (q0 := 0) hB w_490 xHd_code w_487 w_489 s_X_lineOf rfl rfl nm_X_lineOf rfl d_X_count_2) (c_X_lineOf_1 l E hx h0 h1 ht hw hz sp) w_490 xHd_code w_1 [0] rfl rfl ⟨by decide, by decide⟩ ⟨by decide, by decide⟩ rfl rfl (Nat.le_of_ble_eq_true rfl) d_X_count_2 rfl rfl ?_
  refine x_astore_n 6 hB d_X_count_5 rfl (by decide) (lv' := [(3, .ref h1), (0, .ref hx), (1, .int (nI 1)), (2, .int (nI 4))]) rfl ?_
  refine x_iload_n 7 hB d_X_count_6 rfl rfl ?_
  refine x_if_ne 17 10 hB d_X_count_7 (by decide) rfl (fun _ => ?_) (fun hc => absurd hc (by decide))
  refine x_aload_n 18 hB d_X_count_17 rfl rfl ?_
  refine x_get 21 hB 0 fg_X_31_4 rfl rfl d_X_count_18 rfl ?_
  refine x_astore 23 hB d_X_count_21 rfl (by decide) (lv' := [(4, .ref hw), (3, .ref h1), (0, .ref hx), (1, .int (nI 1)), (2, .int (nI 4))]) rfl ?_
  refine x_iload_n 24 hB d_X_count_23 rfl rfl ?_
  refine x_tabIn 106 hB d_X_count_24 (by decide) (by decide) (off := 82) (by decide) (by decide) ?_
  refine x_aload 108 hB d_X_count_106 rfl rfl ?_
  refine x_callP (k' := 0) (n' := 0) (rest := []) (st' := [.int (nI (sl))]) 111 hB (x_pfU (av := []) (q0 := 3) (x := ⟨"LineCoder$Receiver", "slips", "()I"⟩) (owner := "LineCoder$Receiver") hB w_577 xHd_code w_572 w_574 (va_Decl.of (hB.qt _ w_573) (hB.qt _ w_577)) w_573 w_576 rfl rfl (by decide) ⟨⟨by decide +kernel, by decide +kernel⟩, by decide +kernel⟩ rfl d_X_count_108) (c_R_slips_W l E hw h1 hs fo sl bd wr gr la last) w_577 xHd_code w_3 [3] rfl rfl ⟨by decide, by decide⟩ ⟨by decide, by decide⟩ rfl rfl (Nat.le_of_ble_eq_true rfl) d_X_count_108 rfl rfl ?_
  exact x_iretP hB (rfl) (by decide) (by decide) d_X_count_111
abbrev rm_X_count1_5 : Room := { frames := 1, cells := 0, slots := 0, locals := 21 }
set_option maxHeartbeats 4000000 in
set_option maxRecDepth 100000 in
theorem c_X_count1_5 (l : Launch) (E : xE) (hx h0 h1 ht hw hz : Nat) (sp : Bool) (a0 n p : Nat) (f : Nat → Int32) (hs : Nat) (fo : Bool) (sl bd wr gr : Nat) (la : Int32) (last : Int64) (hn : n ≤ 2640) : xCp l E y_X_count (.code y_X_count prog_1_method_13_code 5 (some .int)) rm_X_count1_5 [.ref hx, .int (nI 1), .int (nI 5)] [(hx, .inr (4, [.ref h0, .ref h1, .ref ht, .ref hw, .ref hz, .int (bI sp)])), (h1, .inr (0, [.ref a0, .int (nI (n)), .int (nI (p))])), (a0, .inl (E.2 0, 2640, .inl (f))), (hw, .inr (3, [.ref h1, .int (bI fo), .int (nI (sl)), .int (nI (bd)), .int (nI (wr)), .ref hs, .int (nI (gr)), .int (la), .long (last)]))] (.inl (some (.int (nI (bd))))) := by
  refine x_ofP (own := "LineCoder") (mn := "count") (lv := [(0, .ref hx), (1, .int (nI 1)), (2, .int (nI 5))]) (plainFor_of_name (by decide)) rfl rfl (Nat.le_of_ble_eq_true rfl) rfl ?_
  intro p_ e_ s_ m_ ar_ be_ me_ c_ hB
  refine x_aload_n 1 hB d_X_count_0 rfl rfl ?_
  refine x_iload_n 2 hB d_X_count_1 rfl rfl ?_
  refine x_callP (k' := 0) (n' := 0) (rest := []) (st' := [.ref h1]) 5 hB (x_pfV (av := [.int (nI 1)]) (q0 := 0) hB w_490 xHd_code w_487 w_489 s_X_lineOf rfl rfl nm_X_lineOf rfl d_X_count_2) (c_X_lineOf_1 l E hx h0 h1 ht hw hz sp) w_490 xHd_code w_1 [0] rfl rfl ⟨by decide, by decide⟩ ⟨by decide, by decide⟩ rfl rfl (Nat.le_of_ble_eq_true rfl) d_X_count_2 rfl rfl ?_
  refine x_astore_n 6 hB d_X_count_5 rfl (by decide) (lv' := [(3, .ref h1), (0, .ref hx), (1, .int (nI 1)), (2, .int (nI 5))]) rfl ?_
  refine x_iload_n 7 hB d_X_count_6 rfl rfl ?_
  refine x_if_ne 17 10 hB d_X_count_7 (by decide) rfl (fun _ => ?_) (fun hc => absurd hc (by decide))
  refine x_aload_n 18 hB d_X_count_17 rfl rfl ?_
  refine x_get 21 hB 0 fg_X_31_4 rfl rfl d_X_count_18 rfl ?_
  refine x_astore 23 hB d_X_count_21 rfl (by decide) (lv' := [(4, .ref hw), (3, .ref h1), (0, .ref hx), (1, .int (nI 1)), (2, .int (nI 5))]) rfl ?_
  refine x_iload_n 24 hB d_X_count_23 rfl rfl ?_
  refine x_tabIn 112 hB d_X_count_24 (by decide) (by decide) (off := 88) (by decide) (by decide) ?_
  refine x_aload 114 hB d_X_count_112 rfl rfl ?_
  refine x_callP (k' := 0) (n' := 0) (rest := []) (st' := [.int (nI (bd))]) 117 hB (x_pfU (av := []) (q0 := 3) (x := ⟨"LineCoder$Receiver", "bads", "()I"⟩) (owner := "LineCoder$Receiver") hB w_583 xHd_code w_578 w_580 (va_Decl.of (hB.qt _ w_579) (hB.qt _ w_583)) w_579 w_582 rfl rfl (by decide) ⟨⟨by decide +kernel, by decide +kernel⟩, by decide +kernel⟩ rfl d_X_count_114) (c_R_bads_W l E hw h1 hs fo sl bd wr gr la last) w_583 xHd_code w_3 [3] rfl rfl ⟨by decide, by decide⟩ ⟨by decide, by decide⟩ rfl rfl (Nat.le_of_ble_eq_true rfl) d_X_count_114 rfl rfl ?_
  exact x_iretP hB (rfl) (by decide) (by decide) d_X_count_117
abbrev rm_X_count1_6 : Room := { frames := 1, cells := 0, slots := 0, locals := 21 }
set_option maxHeartbeats 4000000 in
set_option maxRecDepth 100000 in
theorem c_X_count1_6 (l : Launch) (E : xE) (hx h0 h1 ht hw hz : Nat) (sp : Bool) (a0 n p : Nat) (f : Nat → Int32) (hs : Nat) (fo : Bool) (sl bd wr gr : Nat) (la : Int32) (last : Int64) (hn : n ≤ 2640) : xCp l E y_X_count (.code y_X_count prog_1_method_13_code 5 (some .int)) rm_X_count1_6 [.ref hx, .int (nI 1), .int (nI 6)] [(hx, .inr (4, [.ref h0, .ref h1, .ref ht, .ref hw, .ref hz, .int (bI sp)])), (h1, .inr (0, [.ref a0, .int (nI (n)), .int (nI (p))])), (a0, .inl (E.2 0, 2640, .inl (f))), (hw, .inr (3, [.ref h1, .int (bI fo), .int (nI (sl)), .int (nI (bd)), .int (nI (wr)), .ref hs, .int (nI (gr)), .int (la), .long (last)]))] (.inl (some (.int (nI (wr))))) := by
  refine x_ofP (own := "LineCoder") (mn := "count") (lv := [(0, .ref hx), (1, .int (nI 1)), (2, .int (nI 6))]) (plainFor_of_name (by decide)) rfl rfl (Nat.le_of_ble_eq_true rfl) rfl ?_
  intro p_ e_ s_ m_ ar_ be_ me_ c_ hB
  refine x_aload_n 1 hB d_X_count_0 rfl rfl ?_
  refine x_iload_n 2 hB d_X_count_1 rfl rfl ?_
  refine x_callP (k' := 0) (n' := 0) (rest := []) (st' := [.ref h1]) 5 hB (x_pfV (av := [.int (nI 1)]) (q0 := 0) hB w_490 xHd_code w_487 w_489 s_X_lineOf rfl rfl nm_X_lineOf rfl d_X_count_2) (c_X_lineOf_1 l E hx h0 h1 ht hw hz sp) w_490 xHd_code w_1 [0] rfl rfl ⟨by decide, by decide⟩ ⟨by decide, by decide⟩ rfl rfl (Nat.le_of_ble_eq_true rfl) d_X_count_2 rfl rfl ?_
  refine x_astore_n 6 hB d_X_count_5 rfl (by decide) (lv' := [(3, .ref h1), (0, .ref hx), (1, .int (nI 1)), (2, .int (nI 6))]) rfl ?_
  refine x_iload_n 7 hB d_X_count_6 rfl rfl ?_
  refine x_if_ne 17 10 hB d_X_count_7 (by decide) rfl (fun _ => ?_) (fun hc => absurd hc (by decide))
  refine x_aload_n 18 hB d_X_count_17 rfl rfl ?_
  refine x_get 21 hB 0 fg_X_31_4 rfl rfl d_X_count_18 rfl ?_
  refine x_astore 23 hB d_X_count_21 rfl (by decide) (lv' := [(4, .ref hw), (3, .ref h1), (0, .ref hx), (1, .int (nI 1)), (2, .int (nI 6))]) rfl ?_
  refine x_iload_n 24 hB d_X_count_23 rfl rfl ?_
  refine x_tabIn 118 hB d_X_count_24 (by decide) (by decide) (off := 94) (by decide) (by decide) ?_
  refine x_aload 120 hB d_X_count_118 rfl rfl ?_
  refine x_callP (k' := 0) (n' := 0) (rest := []) (st' := [.int (nI (wr))]) 123 hB (x_pfU (av := []) (q0 := 3) (x := ⟨"LineCoder$Receiver", "wrongs", "()I"⟩) (owner := "LineCoder$Receiver") hB w_589 xHd_code w_584 w_586 (va_Decl.of (hB.qt _ w_585) (hB.qt _ w_589)) w_585 w_588 rfl rfl (by decide) ⟨⟨by decide +kernel, by decide +kernel⟩, by decide +kernel⟩ rfl d_X_count_120) (c_R_wrongs_W l E hw h1 hs fo sl bd wr gr la last) w_589 xHd_code w_3 [3] rfl rfl ⟨by decide, by decide⟩ ⟨by decide, by decide⟩ rfl rfl (Nat.le_of_ble_eq_true rfl) d_X_count_120 rfl rfl ?_
  exact x_iretP hB (rfl) (by decide) (by decide) d_X_count_123
abbrev rm_X_count1_7 : Room := { frames := 1, cells := 0, slots := 0, locals := 22 }
set_option maxHeartbeats 4000000 in
set_option maxRecDepth 100000 in
theorem c_X_count1_7 (l : Launch) (E : xE) (hx h0 h1 ht hw hz : Nat) (sp : Bool) (a0 n p : Nat) (f : Nat → Int32) (hs : Nat) (fo : Bool) (sl bd wr gr : Nat) (la : Int32) (last : Int64) (hn : n ≤ 2640) : xCp l E y_X_count (.code y_X_count prog_1_method_13_code 5 (some .int)) rm_X_count1_7 [.ref hx, .int (nI 1), .int (nI 7)] [(hx, .inr (4, [.ref h0, .ref h1, .ref ht, .ref hw, .ref hz, .int (bI sp)])), (h1, .inr (0, [.ref a0, .int (nI (n)), .int (nI (p))])), (a0, .inl (E.2 0, 2640, .inl (f))), (hw, .inr (3, [.ref h1, .int (bI fo), .int (nI (sl)), .int (nI (bd)), .int (nI (wr)), .ref hs, .int (nI (gr)), .int (la), .long (last)]))] (.inl (some (.int (olF f n)))) := by
  refine x_ofP (own := "LineCoder") (mn := "count") (lv := [(0, .ref hx), (1, .int (nI 1)), (2, .int (nI 7))]) (plainFor_of_name (by decide)) rfl rfl (Nat.le_of_ble_eq_true rfl) rfl ?_
  intro p_ e_ s_ m_ ar_ be_ me_ c_ hB
  refine x_aload_n 1 hB d_X_count_0 rfl rfl ?_
  refine x_iload_n 2 hB d_X_count_1 rfl rfl ?_
  refine x_callP (k' := 0) (n' := 0) (rest := []) (st' := [.ref h1]) 5 hB (x_pfV (av := [.int (nI 1)]) (q0 := 0) hB w_490 xHd_code w_487 w_489 s_X_lineOf rfl rfl nm_X_lineOf rfl d_X_count_2) (c_X_lineOf_1 l E hx h0 h1 ht hw hz sp) w_490 xHd_code w_1 [0] rfl rfl ⟨by decide, by decide⟩ ⟨by decide, by decide⟩ rfl rfl (Nat.le_of_ble_eq_true rfl) d_X_count_2 rfl rfl ?_
  refine x_astore_n 6 hB d_X_count_5 rfl (by decide) (lv' := [(3, .ref h1), (0, .ref hx), (1, .int (nI 1)), (2, .int (nI 7))]) rfl ?_
  refine x_iload_n 7 hB d_X_count_6 rfl rfl ?_
  refine x_if_ne 17 10 hB d_X_count_7 (by decide) rfl (fun _ => ?_) (fun hc => absurd hc (by decide))
  refine x_aload_n 18 hB d_X_count_17 rfl rfl ?_
  refine x_get 21 hB 0 fg_X_31_4 rfl rfl d_X_count_18 rfl ?_
  refine x_astore 23 hB d_X_count_21 rfl (by decide) (lv' := [(4, .ref hw), (3, .ref h1), (0, .ref hx), (1, .int (nI 1)), (2, .int (nI 7))]) rfl ?_
  refine x_iload_n 24 hB d_X_count_23 rfl rfl ?_
  refine x_tabIn 124 hB d_X_count_24 (by decide) (by decide) (off := 100) (by decide) (by decide) ?_
  refine x_aload_n 125 hB d_X_count_124 rfl rfl ?_
  refine x_callP (k' := 0) (n' := 0) (rest := []) (st' := [.int (olF f n)]) 128 hB (x_pfV (av := []) (q0 := 1) hB w_593 xHd_code w_590 w_591 w_592 rfl rfl nm_L_onesLessZeros rfl d_X_count_125) (c_L_olz l E h1 a0 n p f hn) w_593 xHd_code w_2 [1, 2] rfl rfl ⟨by decide, by decide⟩ ⟨by decide, by decide⟩ rfl rfl (Nat.le_of_ble_eq_true rfl) d_X_count_125 rfl rfl ?_
  exact x_iretP hB (rfl) (by decide) (by decide) d_X_count_128
abbrev rm_X_count1_8 : Room := { frames := 2, cells := 0, slots := 0, locals := 44 }
set_option maxHeartbeats 4000000 in
set_option maxRecDepth 100000 in
theorem c_X_count1_8 (l : Launch) (E : xE) (hx h0 h1 ht hw hz : Nat) (sp : Bool) (a0 n p : Nat) (f : Nat → Int32) (hs : Nat) (fo : Bool) (sl bd wr gr : Nat) (la : Int32) (last : Int64) (hn : n ≤ 2640) : xCp l E y_X_count (.code y_X_count prog_1_method_13_code 5 (some .int)) rm_X_count1_8 [.ref hx, .int (nI 1), .int (nI 8)] [(hx, .inr (4, [.ref h0, .ref h1, .ref ht, .ref hw, .ref hz, .int (bI sp)])), (h1, .inr (0, [.ref a0, .int (nI (n)), .int (nI (p))])), (a0, .inl (E.2 0, 2640, .inl (f))), (hw, .inr (3, [.ref h1, .int (bI fo), .int (nI (sl)), .int (nI (bd)), .int (nI (wr)), .ref hs, .int (nI (gr)), .int (la), .long (last)]))] (.inl (some (.int (nI ((lrF f n).2))))) := by
  refine x_ofP (own := "LineCoder") (mn := "count") (lv := [(0, .ref hx), (1, .int (nI 1)), (2, .int (nI 8))]) (plainFor_of_name (by decide)) rfl rfl (Nat.le_of_ble_eq_true rfl) rfl ?_
  intro p_ e_ s_ m_ ar_ be_ me_ c_ hB
  refine x_aload_n 1 hB d_X_count_0 rfl rfl ?_
  refine x_iload_n 2 hB d_X_count_1 rfl rfl ?_
  refine x_callP (k' := 0) (n' := 0) (rest := []) (st' := [.ref h1]) 5 hB (x_pfV (av := [.int (nI 1)]) (q0 := 0) hB w_490 xHd_code w_487 w_489 s_X_lineOf rfl rfl nm_X_lineOf rfl d_X_count_2) (c_X_lineOf_1 l E hx h0 h1 ht hw hz sp) w_490 xHd_code w_1 [0] rfl rfl ⟨by decide, by decide⟩ ⟨by decide, by decide⟩ rfl rfl (Nat.le_of_ble_eq_true rfl) d_X_count_2 rfl rfl ?_
  refine x_astore_n 6 hB d_X_count_5 rfl (by decide) (lv' := [(3, .ref h1), (0, .ref hx), (1, .int (nI 1)), (2, .int (nI 8))]) rfl ?_
  refine x_iload_n 7 hB d_X_count_6 rfl rfl ?_
  refine x_if_ne 17 10 hB d_X_count_7 (by decide) rfl (fun _ => ?_) (fun hc => absurd hc (by decide))
  refine x_aload_n 18 hB d_X_count_17 rfl rfl ?_
  refine x_get 21 hB 0 fg_X_31_4 rfl rfl d_X_count_18 rfl ?_
  refine x_astore 23 hB d_X_count_21 rfl (by decide) (lv' := [(4, .ref hw), (3, .ref h1), (0, .ref hx), (1, .int (nI 1)), (2, .int (nI 8))]) rfl ?_
  refine x_iload_n 24 hB d_X_count_23 rfl rfl ?_
  refine x_tabIn 129 hB d_X_count_24 (by decide) (by decide) (off := 105) (by decide) (by decide) ?_
  refine x_aload_n 130 hB d_X_count_129 rfl rfl ?_
  refine x_callP (k' := 0) (n' := 0) (rest := []) (st' := [.int (nI ((lrF f n).2))]) 133 hB (x_pfV (av := []) (q0 := 1) hB w_597 xHd_code w_594 w_595 w_596 rfl rfl nm_L_longestRun rfl d_X_count_130) (c_L_lr l E h1 a0 n p f hn) w_597 xHd_code w_2 [1, 2] rfl rfl ⟨by decide, by decide⟩ ⟨by decide, by decide⟩ rfl rfl (Nat.le_of_ble_eq_true rfl) d_X_count_130 rfl rfl ?_
  exact x_iretP hB (rfl) (by decide) (by decide) d_X_count_133
abbrev rm_X_count1_b : Room := { frames := 6, cells := 1, slots := 6, locals := 83 }
set_option maxHeartbeats 4000000 in
set_option maxRecDepth 100000 in
theorem c_X_count1_b (l : Launch) (E : xE) (hT : xNoTr l) (hx h0 h1 ht hw hz : Nat) (sp : Bool) (k : Int32) (hk : k < 0 ∨ nI 8 < k) : xCp l E y_X_count (.code y_X_count prog_1_method_13_code 5 (some .int)) rm_X_count1_b [.ref hx, .int (nI 1), .int (k)] [(hx, .inr (4, [.ref h0, .ref h1, .ref ht, .ref hw, .ref hz, .int (bI sp)]))] (.inr "java/lang/IllegalArgumentException") := by
  refine x_ofP (own := "LineCoder") (mn := "count") (lv := [(0, .ref hx), (1, .int (nI 1)), (2, .int (k))]) (plainFor_of_name (by decide)) rfl rfl (Nat.le_of_ble_eq_true rfl) rfl ?_
  intro p_ e_ s_ m_ ar_ be_ me_ c_ hB
  refine x_aload_n 1 hB d_X_count_0 rfl rfl ?_
  refine x_iload_n 2 hB d_X_count_1 rfl rfl ?_
  refine x_callP (k' := 0) (n' := 0) (rest := []) (st' := [.ref h1]) 5 hB (x_pfV (av := [.int (nI 1)]) (q0 := 0) hB w_490 xHd_code w_487 w_489 s_X_lineOf rfl rfl nm_X_lineOf rfl d_X_count_2) (c_X_lineOf_1 l E hx h0 h1 ht hw hz sp) w_490 xHd_code w_1 [0] rfl rfl ⟨by decide, by decide⟩ ⟨by decide, by decide⟩ rfl rfl (Nat.le_of_ble_eq_true rfl) d_X_count_2 rfl rfl ?_
  refine x_astore_n 6 hB d_X_count_5 rfl (by decide) (lv' := [(3, .ref h1), (0, .ref hx), (1, .int (nI 1)), (2, .int (k))]) rfl ?_
  refine x_iload_n 7 hB d_X_count_6 rfl rfl ?_
  refine x_if_ne 17 10 hB d_X_count_7 (by decide) rfl (fun _ => ?_) (fun hc => absurd hc (by decide))
  refine x_aload_n 18 hB d_X_count_17 rfl rfl ?_
  refine x_get 21 hB 0 fg_X_31_4 rfl rfl d_X_count_18 rfl ?_
  refine x_astore 23 hB d_X_count_21 rfl (by decide) (lv' := [(4, .ref hw), (3, .ref h1), (0, .ref hx), (1, .int (nI 1)), (2, .int (k))]) rfl ?_
  refine x_iload_n 24 hB d_X_count_23 rfl rfl ?_
  refine x_tabOut 134 hB d_X_count_24 (hk.elim (fun h => Or.inl (Int32.lt_iff_toInt_lt.mp h)) (fun h => Or.inr (Int32.lt_iff_toInt_lt.mp h))) (by decide) ?_
  exact x_throw hT hB ["java/lang/RuntimeException", "java/lang/Exception"] w_352 w_353 w_12 w_599 tw_X_60 (by decide) (by decide) (by decide) (by decide) ⟨by decide, by decide⟩ (by decide) (by decide) (by decide) d_X_count_134 d_X_count_137 d_X_count_138 d_X_count_140 d_X_count_143
abbrev rm_X_raw_s : Room := { frames := 7, cells := 1, slots := 6, locals := 104 }
set_option maxHeartbeats 4000000 in
set_option maxRecDepth 100000 in
theorem c_X_raw_s (l : Launch) (E : xE) (hT : xNoTr l) (hx h0 h1 ht hw hz : Nat) (sp : Bool) (k : Int32) (hk0 : ¬ k = 0) (hk1 : ¬ k = 1) (x z : Int32) : xCp l E y_X_raw (.code y_X_raw prog_1_method_9_code 5 (some .int)) rm_X_raw_s [.ref hx, .int (k), .int (x), .int (z)] [(hx, .inr (4, [.ref h0, .ref h1, .ref ht, .ref hw, .ref hz, .int (bI sp)]))] (.inr "java/lang/IllegalArgumentException") := by
  refine x_ofP (own := "LineCoder") (mn := "raw") (lv := [(0, .ref hx), (1, .int (k)), (2, .int (x)), (3, .int (z))]) (plainFor_of_name (by decide)) rfl rfl (Nat.le_of_ble_eq_true rfl) rfl ?_
  intro p_ e_ s_ m_ ar_ be_ me_ c_ hB
  refine x_aload_n 1 hB d_X_raw_0 rfl rfl ?_
  refine x_iload_n 2 hB d_X_raw_1 rfl rfl ?_
  refine x_callPT (k' := 1) (n' := 6) (rest := []) hB (x_pfV (av := [.int (k)]) (q0 := 0) hB w_490 xHd_code w_487 w_489 s_X_lineOf rfl rfl nm_X_lineOf rfl d_X_raw_2) (c_X_lineOf_b l E hT hx h0 h1 ht hw hz sp k hk0 hk1) w_490 xHd_code w_1 [0] rfl rfl ⟨by decide, by decide⟩ ⟨by decide, by decide⟩ rfl rfl (Nat.le_of_ble_eq_true rfl) d_X_raw_2 ?_
  exact x_leaveP hB (by decide) (by decide) (by decide)
abbrev rm_X_bend_s : Room := { frames := 7, cells := 1, slots := 6, locals := 104 }
set_option maxHeartbeats 4000000 in
set_option maxRecDepth 100000 in
theorem c_X_bend_s (l : Launch) (E : xE) (hT : xNoTr l) (hx h0 h1 ht hw hz : Nat) (sp : Bool) (k : Int32) (hk0 : ¬ k = 0) (hk1 : ¬ k = 1) (x : Int32) : xCp l E y_X_bend (.code y_X_bend prog_1_method_10_code 4 (some .boolean)) rm_X_bend_s [.ref hx, .int (k), .int (x)] [(hx, .inr (4, [.ref h0, .ref h1, .ref ht, .ref hw, .ref hz, .int (bI sp)]))] (.inr "java/lang/IllegalArgumentException") := by
  refine x_ofP (own := "LineCoder") (mn := "bend") (lv := [(0, .ref hx), (1, .int (k)), (2, .int (x))]) (plainFor_of_name (by decide)) rfl rfl (Nat.le_of_ble_eq_true rfl) rfl ?_
  intro p_ e_ s_ m_ ar_ be_ me_ c_ hB
  refine x_aload_n 1 hB d_X_bend_0 rfl rfl ?_
  refine x_iload_n 2 hB d_X_bend_1 rfl rfl ?_
  refine x_callPT (k' := 1) (n' := 6) (rest := []) hB (x_pfV (av := [.int (k)]) (q0 := 0) hB w_490 xHd_code w_487 w_489 s_X_lineOf rfl rfl nm_X_lineOf rfl d_X_bend_2) (c_X_lineOf_b l E hT hx h0 h1 ht hw hz sp k hk0 hk1) w_490 xHd_code w_1 [0] rfl rfl ⟨by decide, by decide⟩ ⟨by decide, by decide⟩ rfl rfl (Nat.le_of_ble_eq_true rfl) d_X_bend_2 ?_
  exact x_leaveP hB (by decide) (by decide) (by decide)
abbrev rm_X_lose_s : Room := { frames := 7, cells := 1, slots := 6, locals := 104 }
set_option maxHeartbeats 4000000 in
set_option maxRecDepth 100000 in
theorem c_X_lose_s (l : Launch) (E : xE) (hT : xNoTr l) (hx h0 h1 ht hw hz : Nat) (sp : Bool) (k : Int32) (hk0 : ¬ k = 0) (hk1 : ¬ k = 1) (x z : Int32) : xCp l E y_X_lose (.code y_X_lose prog_1_method_11_code 5 (some .int)) rm_X_lose_s [.ref hx, .int (k), .int (x), .int (z)] [(hx, .inr (4, [.ref h0, .ref h1, .ref ht, .ref hw, .ref hz, .int (bI sp)]))] (.inr "java/lang/IllegalArgumentException") := by
  refine x_ofP (own := "LineCoder") (mn := "lose") (lv := [(0, .ref hx), (1, .int (k)), (2, .int (x)), (3, .int (z))]) (plainFor_of_name (by decide)) rfl rfl (Nat.le_of_ble_eq_true rfl) rfl ?_
  intro p_ e_ s_ m_ ar_ be_ me_ c_ hB
  refine x_aload_n 1 hB d_X_lose_0 rfl rfl ?_
  refine x_iload_n 2 hB d_X_lose_1 rfl rfl ?_
  refine x_callPT (k' := 1) (n' := 6) (rest := []) hB (x_pfV (av := [.int (k)]) (q0 := 0) hB w_490 xHd_code w_487 w_489 s_X_lineOf rfl rfl nm_X_lineOf rfl d_X_lose_2) (c_X_lineOf_b l E hT hx h0 h1 ht hw hz sp k hk0 hk1) w_490 xHd_code w_1 [0] rfl rfl ⟨by decide, by decide⟩ ⟨by decide, by decide⟩ rfl rfl (Nat.le_of_ble_eq_true rfl) d_X_lose_2 ?_
  exact x_leaveP hB (by decide) (by decide) (by decide)
abbrev rm_X_bit_s : Room := { frames := 7, cells := 1, slots := 6, locals := 104 }
set_option maxHeartbeats 4000000 in
set_option maxRecDepth 100000 in
theorem c_X_bit_s (l : Launch) (E : xE) (hT : xNoTr l) (hx h0 h1 ht hw hz : Nat) (sp : Bool) (k : Int32) (hk0 : ¬ k = 0) (hk1 : ¬ k = 1) (x : Int32) : xCp l E y_X_bit (.code y_X_bit prog_1_method_12_code 3 (some .int)) rm_X_bit_s [.ref hx, .int (k), .int (x)] [(hx, .inr (4, [.ref h0, .ref h1, .ref ht, .ref hw, .ref hz, .int (bI sp)]))] (.inr "java/lang/IllegalArgumentException") := by
  refine x_ofP (own := "LineCoder") (mn := "bit") (lv := [(0, .ref hx), (1, .int (k)), (2, .int (x))]) (plainFor_of_name (by decide)) rfl rfl (Nat.le_of_ble_eq_true rfl) rfl ?_
  intro p_ e_ s_ m_ ar_ be_ me_ c_ hB
  refine x_aload_n 1 hB d_X_bit_0 rfl rfl ?_
  refine x_iload_n 2 hB d_X_bit_1 rfl rfl ?_
  refine x_callPT (k' := 1) (n' := 6) (rest := []) hB (x_pfV (av := [.int (k)]) (q0 := 0) hB w_490 xHd_code w_487 w_489 s_X_lineOf rfl rfl nm_X_lineOf rfl d_X_bit_2) (c_X_lineOf_b l E hT hx h0 h1 ht hw hz sp k hk0 hk1) w_490 xHd_code w_1 [0] rfl rfl ⟨by decide, by decide⟩ ⟨by decide, by decide⟩ rfl rfl (Nat.le_of_ble_eq_true rfl) d_X_bit_2 ?_
  exact x_leaveP hB (by decide) (by decide) (by decide)
abbrev rm_X_count_s : Room := { frames := 7, cells := 1, slots := 6, locals := 104 }
set_option maxHeartbeats 4000000 in
set_option maxRecDepth 100000 in
theorem c_X_count_s (l : Launch) (E : xE) (hT : xNoTr l) (hx h0 h1 ht hw hz : Nat) (sp : Bool) (k : Int32) (hk0 : ¬ k = 0) (hk1 : ¬ k = 1) (x : Int32) : xCp l E y_X_count (.code y_X_count prog_1_method_13_code 5 (some .int)) rm_X_count_s [.ref hx, .int (k), .int (x)] [(hx, .inr (4, [.ref h0, .ref h1, .ref ht, .ref hw, .ref hz, .int (bI sp)]))] (.inr "java/lang/IllegalArgumentException") := by
  refine x_ofP (own := "LineCoder") (mn := "count") (lv := [(0, .ref hx), (1, .int (k)), (2, .int (x))]) (plainFor_of_name (by decide)) rfl rfl (Nat.le_of_ble_eq_true rfl) rfl ?_
  intro p_ e_ s_ m_ ar_ be_ me_ c_ hB
  refine x_aload_n 1 hB d_X_count_0 rfl rfl ?_
  refine x_iload_n 2 hB d_X_count_1 rfl rfl ?_
  refine x_callPT (k' := 1) (n' := 6) (rest := []) hB (x_pfV (av := [.int (k)]) (q0 := 0) hB w_490 xHd_code w_487 w_489 s_X_lineOf rfl rfl nm_X_lineOf rfl d_X_count_2) (c_X_lineOf_b l E hT hx h0 h1 ht hw hz sp k hk0 hk1) w_490 xHd_code w_1 [0] rfl rfl ⟨by decide, by decide⟩ ⟨by decide, by decide⟩ rfl rfl (Nat.le_of_ble_eq_true rfl) d_X_count_2 ?_
  exact x_leaveP hB (by decide) (by decide) (by decide)
abbrev rm_X_isPlus_s : Room := { frames := 0, cells := 0, slots := 0, locals := 0 }
set_option maxHeartbeats 4000000 in
set_option maxRecDepth 100000 in
theorem c_X_isPlus_s (l : Launch) (E : xE) (hx h0 h1 ht hw hz : Nat) (sp : Bool) : xCp l E y_X_isPlus (.code y_X_isPlus prog_1_method_14_code 2 (some .boolean)) rm_X_isPlus_s [.ref hx, .int (nI 1)] [(hx, .inr (4, [.ref h0, .ref h1, .ref ht, .ref hw, .ref hz, .int (bI sp)]))] (.inl (some (.int (bI sp)))) := by
  refine x_ofP (own := "LineCoder") (mn := "isPlus") (lv := [(0, .ref hx), (1, .int (nI 1))]) (plainFor_of_name (by decide)) rfl rfl (Nat.le_of_ble_eq_true rfl) rfl ?_
  intro p_ e_ s_ m_ ar_ be_ me_ c_ hB
  refine x_iload_n 1 hB d_X_isPlus_0 rfl rfl ?_
  refine x_if_eq 11 4 hB d_X_isPlus_1 (by decide) rfl (fun hc => absurd hc (by decide)) (fun _ => ?_)
  refine x_aload_n 5 hB d_X_isPlus_4 rfl rfl ?_
  refine x_get 8 hB 0 fg_X_42_4 rfl rfl d_X_isPlus_5 rfl ?_
  refine x_goto 18 hB d_X_isPlus_8 (by decide) ?_
  exact x_zretP hB (nrb _) (rfl) (by decide) (by decide) d_X_isPlus_18
abbrev rm_X_isPlus_r : Room := { frames := 1, cells := 0, slots := 0, locals := 20 }
set_option maxHeartbeats 4000000 in
set_option maxRecDepth 100000 in
theorem c_X_isPlus_r (l : Launch) (E : xE) (hx h0 h1 ht hw hz : Nat) (sp : Bool) (fo plus first : Bool) (sl bd wr mk rw : Nat) : xCp l E y_X_isPlus (.code y_X_isPlus prog_1_method_14_code 2 (some .boolean)) rm_X_isPlus_r [.ref hx, .int (nI 0)] [(hx, .inr (4, [.ref h0, .ref h1, .ref ht, .ref hw, .ref hz, .int (bI sp)])), (ht, .inr (2, [.ref h0, .int (bI fo), .int (nI (sl)), .int (nI (bd)), .int (nI (wr)), .int (bI plus), .int (bI first), .int (nI (mk)), .int (nI (rw))]))] (.inl (some (.int (bI plus)))) := by
  refine x_ofP (own := "LineCoder") (mn := "isPlus") (lv := [(0, .ref hx), (1, .int (nI 0))]) (plainFor_of_name (by decide)) rfl rfl (Nat.le_of_ble_eq_true rfl) rfl ?_
  intro p_ e_ s_ m_ ar_ be_ me_ c_ hB
  refine x_iload_n 1 hB d_X_isPlus_0 rfl rfl ?_
  refine x_if_eq 11 4 hB d_X_isPlus_1 (by decide) rfl (fun _ => ?_) (fun hc => absurd (by decide) hc)
  refine x_aload_n 12 hB d_X_isPlus_11 rfl rfl ?_
  refine x_get 15 hB 0 fg_X_24_4 rfl rfl d_X_isPlus_12 rfl ?_
  refine x_callP (k' := 0) (n' := 0) (rest := []) (st' := [.int (bI plus)]) 18 hB (x_pfV (av := []) (q0 := 1) hB w_309 xHd_code w_306 w_307 w_308 rfl rfl nm_T_hasPlus rfl d_X_isPlus_15) (c_T_hasPlus l E ht h0 fo plus first sl bd wr mk rw) w_309 xHd_code w_4 [1] rfl rfl ⟨by decide, by decide⟩ ⟨by decide, by decide⟩ rfl rfl (Nat.le_of_ble_eq_true rfl) d_X_isPlus_15 rfl rfl ?_
  exact x_zretP hB (nrb _) (rfl) (by decide) (by decide) d_X_isPlus_18
abbrev rm_X_word : Room := { frames := 1, cells := 0, slots := 0, locals := 20 }
set_option maxHeartbeats 4000000 in
set_option maxRecDepth 100000 in
theorem c_X_word (l : Launch) (E : xE) (hx h0 h1 ht hw hz : Nat) (sp : Bool) (hs : Nat) (fo : Bool) (sl bd wr gr : Nat) (la : Int32) (last : Int64) : xCp l E y_X_word (.code y_X_word prog_1_method_8_code 1 (some .long)) rm_X_word [.ref hx] [(hx, .inr (4, [.ref h0, .ref h1, .ref ht, .ref hw, .ref hz, .int (bI sp)])), (hw, .inr (3, [.ref h1, .int (bI fo), .int (nI (sl)), .int (nI (bd)), .int (nI (wr)), .ref hs, .int (nI (gr)), .int (la), .long (last)]))] (.inl (some (.long (last)))) := by
  refine x_ofP (own := "LineCoder") (mn := "word") (lv := [(0, .ref hx)]) (plainFor_of_name (by decide)) rfl rfl (Nat.le_of_ble_eq_true rfl) rfl ?_
  intro p_ e_ s_ m_ ar_ be_ me_ c_ hB
  refine x_aload_n 1 hB d_X_word_0 rfl rfl ?_
  refine x_get 4 hB 0 fg_X_31_4 rfl rfl d_X_word_1 rfl ?_
  refine x_callP (k' := 0) (n' := 0) (rest := []) (st' := [.long (last)]) 7 hB (x_pfV (av := []) (q0 := 1) hB w_301 xHd_code w_298 w_299 w_300 rfl rfl nm_W_lastWord rfl d_X_word_4) (c_W_lastWord l E hw h1 hs fo sl bd wr gr la last) w_301 xHd_code w_5 [1] rfl rfl ⟨by decide, by decide⟩ ⟨by decide, by decide⟩ rfl rfl (Nat.le_of_ble_eq_true rfl) d_X_word_4 rfl rfl ?_
  exact x_lretP hB (rfl) (by decide) (by decide) d_X_word_7
