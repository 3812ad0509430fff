abbrev rm_Q_code : Room := { frames := 4, cells := 0, slots := 0, locals := 93 }
set_option maxHeartbeats 4000000 in
set_option maxRecDepth 100000 in
theorem c_Q_code (l : Launch) (E : xE) (hx h0 h1 ht hw hz : Nat) (sp : Bool) (s : Nat) (hs : s < 512) (hS : isS s = true) (plus : Bool) (ho : Nat) (o : Nat → Int64) : xC l E y_Q_code (.codeWith y_Q_code method_3_code 5 (some .int) [(0, 10, 13, 13)]) rm_Q_code [.ref hx, .int (nI (s)), .int (bI plus), .ref ho] [(hx, .inr (4, [.ref h0, .ref h1, .ref ht, .ref hw, .ref hz, .int (bI sp)])), (ho, .inl (E.2 2, 1, .inr (.inl (o))))] (xRet (some (.int (nI 0))) [(hx, .inr (4, [.ref h0, .ref h1, .ref ht, .ref hw, .ref hz, .int (bI sp)])), (ho, .inl (E.2 2, 1, .inr (.inl (vp_updL o 0 ((nI (encF s plus)).toInt64)))))]) := by
  refine x_ofH' (own := "LineCoderLaw") (mn := "code") (lv := [(0, .ref hx), (1, .int (nI (s))), (2, .int (bI plus)), (3, .ref ho)]) (plainFor_of_name (by decide)) rfl rfl (Nat.le_of_ble_eq_true rfl) rfl ?_
  intro p_ e_ s_ m_ ar_ be_ me_ c_ A_ hA hB
  refine x_aload_n 1 hB d_Q_code_0 rfl rfl ?_
  refine x_iconst (v := nI 0) 2 hB d_Q_code_1 rfl (by decide) ?_
  refine x_aload_n 3 hB d_Q_code_2 rfl rfl ?_
  refine x_iload_n 4 hB d_Q_code_3 rfl rfl ?_
  refine x_iload_n 5 hB d_Q_code_4 rfl rfl ?_
  refine x_callP (k' := 0) (n' := 0) (rest := [.int (nI 0), .ref ho]) (st' := [.int (nI (encF s plus)), .int (nI 0), .ref ho]) 8 hB (x_pfV (av := [.int (nI (s)), .int (bI plus)]) (q0 := 0) hB w_347 xHd_code w_344 w_345 w_346 rfl rfl nm_X_code rfl d_Q_code_5) (c_X_code l E hx s hs hS plus) w_347 xHd_code w_1 [] rfl rfl ⟨by decide, by decide⟩ ⟨by decide, by decide⟩ rfl rfl (Nat.le_of_ble_eq_true rfl) d_Q_code_5 rfl rfl ?_
  refine x_i2l (v := (nI (encF s plus)).toInt64) 9 hB d_Q_code_8 rfl (rfl) ?_
  refine x_last 10 hB 1 (ws' := [(hx, .inr (4, [.ref h0, .ref h1, .ref ht, .ref hw, .ref hz, .int (bI sp)])), (ho, .inl (E.2 2, 1, .inr (.inl (vp_updL o 0 ((nI (encF s plus)).toInt64)))))]) rfl (by omega) (by decide) (x' := (nI (encF s plus)).toInt64) (rfl) rfl d_Q_code_9 rfl ?_
  refine x_goto 17 hB d_Q_code_10 (by decide) ?_
  refine x_iconst (v := nI 0) 18 hB d_Q_code_17 rfl (by decide) ?_
  exact x_iret hB (w' := [(hx, .inr (4, [.ref h0, .ref h1, .ref ht, .ref hw, .ref hz, .int (bI sp)])), (ho, .inl (E.2 2, 1, .inr (.inl (vp_updL o 0 ((nI (encF s plus)).toInt64)))))]) hA [0, 1] rfl rfl (xRet_i) (by decide) (by decide) d_Q_code_18
abbrev rm_Q_code_b : Room := { frames := 8, cells := 1, slots := 6, locals := 125 }
set_option maxHeartbeats 4000000 in
set_option maxRecDepth 100000 in
theorem c_Q_code_b (l : Launch) (E : xE) (hx h0 h1 ht hw hz : Nat) (sp : Bool) (hT : xNoTr l) (s : Nat) (hs : s < 512) (hS : isS s = false) (z : Int32) (ho : Nat) (o : Nat → Int64) : xC l E y_Q_code (.codeWith y_Q_code method_3_code 5 (some .int) [(0, 10, 13, 13)]) rm_Q_code_b [.ref hx, .int (nI (s)), .int (z), .ref ho] [(hx, .inr (4, [.ref h0, .ref h1, .ref ht, .ref hw, .ref hz, .int (bI sp)])), (ho, .inl (E.2 2, 1, .inr (.inl (o))))] (xRet (some (.int (nI 1))) [(hx, .inr (4, [.ref h0, .ref h1, .ref ht, .ref hw, .ref hz, .int (bI sp)])), (ho, .inl (E.2 2, 1, .inr (.inl (o))))]) := by
  refine x_ofH' (own := "LineCoderLaw") (mn := "code") (lv := [(0, .ref hx), (1, .int (nI (s))), (2, .int (z)), (3, .ref ho)]) (plainFor_of_name (by decide)) rfl rfl (Nat.le_of_ble_eq_true rfl) rfl ?_
  intro p_ e_ s_ m_ ar_ be_ me_ c_ A_ hA hB
  refine x_aload_n 1 hB d_Q_code_0 rfl rfl ?_
  refine x_iconst (v := nI 0) 2 hB d_Q_code_1 rfl (by decide) ?_
  refine x_aload_n 3 hB d_Q_code_2 rfl rfl ?_
  refine x_iload_n 4 hB d_Q_code_3 rfl rfl ?_
  refine x_iload_n 5 hB d_Q_code_4 rfl rfl ?_
  refine x_callPT (k' := 1) (n' := 6) (rest := [.int (nI 0), .ref ho]) hB (x_pfV (av := [.int (nI (s)), .int (z)]) (q0 := 0) hB w_347 xHd_code w_344 w_345 w_346 rfl rfl nm_X_code rfl d_Q_code_5) (c_X_code_b l E hT hx s hs hS z) w_347 xHd_code w_1 [] rfl rfl ⟨by decide, by decide⟩ ⟨by decide, by decide⟩ rfl rfl (Nat.le_of_ble_eq_true rfl) d_Q_code_5 ?_
  refine x_catch1 hB w_343 ⟨by decide, by decide⟩ (by decide) (fun q_ => ?_)
  refine x_astore 15 hB d_Q_code_13 rfl (by decide) (lv' := [(4, .ref q_), (0, .ref hx), (1, .int (nI (s))), (2, .int (z)), (3, .ref ho)]) rfl ?_
  refine x_iconst (v := nI 1) 16 hB d_Q_code_15 rfl (by decide) ?_
  exact x_iret hB (w' := [(hx, .inr (4, [.ref h0, .ref h1, .ref ht, .ref hw, .ref hz, .int (bI sp)])), (ho, .inl (E.2 2, 1, .inr (.inl (o))))]) hA [0, 1] rfl rfl (xRet_i) (by decide) (by decide) d_Q_code_16
abbrev rm_Q_code_o : Room := { frames := 8, cells := 1, slots := 6, locals := 125 }
set_option maxHeartbeats 4000000 in
set_option maxRecDepth 100000 in
theorem c_Q_code_o (l : Launch) (E : xE) (hx h0 h1 ht hw hz : Nat) (sp : Bool) (hT : xNoTr l) (k z : Int32) (hk : k < 0 ∨ nI 512 ≤ k) (ho : Nat) (o : Nat → Int64) : xC l E y_Q_code (.codeWith y_Q_code method_3_code 5 (some .int) [(0, 10, 13, 13)]) rm_Q_code_o [.ref hx, .int (k), .int (z), .ref ho] [(hx, .inr (4, [.ref h0, .ref h1, .ref ht, .ref hw, .ref hz, .int (bI sp)])), (ho, .inl (E.2 2, 1, .inr (.inl (o))))] (xRet (some (.int (nI 1))) [(hx, .inr (4, [.ref h0, .ref h1, .ref ht, .ref hw, .ref hz, .int (bI sp)])), (ho, .inl (E.2 2, 1, .inr (.inl (o))))]) := by
  refine x_ofH' (own := "LineCoderLaw") (mn := "code") (lv := [(0, .ref hx), (1, .int (k)), (2, .int (z)), (3, .ref ho)]) (plainFor_of_name (by decide)) rfl rfl (Nat.le_of_ble_eq_true rfl) rfl ?_
  intro p_ e_ s_ m_ ar_ be_ me_ c_ A_ hA hB
  refine x_aload_n 1 hB d_Q_code_0 rfl rfl ?_
  refine x_iconst (v := nI 0) 2 hB d_Q_code_1 rfl (by decide) ?_
  refine x_aload_n 3 hB d_Q_code_2 rfl rfl ?_
  refine x_iload_n 4 hB d_Q_code_3 rfl rfl ?_
  refine x_iload_n 5 hB d_Q_code_4 rfl rfl ?_
  refine x_callPT (k' := 1) (n' := 6) (rest := [.int (nI 0), .ref ho]) hB (x_pfV (av := [.int (k), .int (z)]) (q0 := 0) hB w_347 xHd_code w_344 w_345 w_346 rfl rfl nm_X_code rfl d_Q_code_5) (c_X_code_o l E hT hx k z hk) w_347 xHd_code w_1 [] rfl rfl ⟨by decide, by decide⟩ ⟨by decide, by decide⟩ rfl rfl (Nat.le_of_ble_eq_true rfl) d_Q_code_5 ?_
  refine x_catch1 hB w_343 ⟨by decide, by decide⟩ (by decide) (fun q_ => ?_)
  refine x_astore 15 hB d_Q_code_13 rfl (by decide) (lv' := [(4, .ref q_), (0, .ref hx), (1, .int (k)), (2, .int (z)), (3, .ref ho)]) rfl ?_
  refine x_iconst (v := nI 1) 16 hB d_Q_code_15 rfl (by decide) ?_
  exact x_iret hB (w' := [(hx, .inr (4, [.ref h0, .ref h1, .ref ht, .ref hw, .ref hz, .int (bI sp)])), (ho, .inl (E.2 2, 1, .inr (.inl (o))))]) hA [0, 1] rfl rfl (xRet_i) (by decide) (by decide) d_Q_code_16
abbrev rm_Q_symbol : Room := { frames := 5, cells := 0, slots := 0, locals := 116 }
set_option maxHeartbeats 4000000 in
set_option maxRecDepth 100000 in
theorem c_Q_symbol (l : Launch) (E : xE) (hx h0 h1 ht hw hz : Nat) (sp : Bool) (t : Nat) (ht9 : t < 1024) (ho : Nat) (o : Nat → Int64) : xC l E y_Q_symbol (.codeWith y_Q_symbol method_4_code 4 (some .int) [(0, 9, 12, 13)]) rm_Q_symbol [.ref hx, .int (nI (t)), .ref ho] [(hx, .inr (4, [.ref h0, .ref h1, .ref ht, .ref hw, .ref hz, .int (bI sp)])), (ho, .inl (E.2 2, 1, .inr (.inl (o))))] (xRet (some (.int (nI 0))) [(hx, .inr (4, [.ref h0, .ref h1, .ref ht, .ref hw, .ref hz, .int (bI sp)])), (ho, .inl (E.2 2, 1, .inr (.inl (vp_updL o 0 ((oI (syF t)).toInt64)))))]) := by
  refine x_ofH' (own := "LineCoderLaw") (mn := "symbol") (lv := [(0, .ref hx), (1, .int (nI (t))), (2, .ref ho)]) (plainFor_of_name (by decide)) rfl rfl (Nat.le_of_ble_eq_true rfl) rfl ?_
  intro p_ e_ s_ m_ ar_ be_ me_ c_ A_ hA hB
  refine x_aload_n 1 hB d_Q_symbol_0 rfl rfl ?_
  refine x_iconst (v := nI 0) 2 hB d_Q_symbol_1 rfl (by decide) ?_
  refine x_aload_n 3 hB d_Q_symbol_2 rfl rfl ?_
  refine x_iload_n 4 hB d_Q_symbol_3 rfl rfl ?_
  refine x_callP (k' := 0) (n' := 0) (rest := [.int (nI 0), .ref ho]) (st' := [.int (oI (syF t)), .int (nI 0), .ref ho]) 7 hB (x_pfV (av := [.int (nI (t))]) (q0 := 0) hB w_426 xHd_code w_423 w_424 w_425 rfl rfl nm_X_symbol rfl d_Q_symbol_4) (c_X_symbol l E hx t ht9) w_426 xHd_code w_1 [] rfl rfl ⟨by decide, by decide⟩ ⟨by decide, by decide⟩ rfl rfl (Nat.le_of_ble_eq_true rfl) d_Q_symbol_4 rfl rfl ?_
  refine x_i2l (v := (oI (syF t)).toInt64) 8 hB d_Q_symbol_7 rfl (rfl) ?_
  refine x_last 9 hB 1 (ws' := [(hx, .inr (4, [.ref h0, .ref h1, .ref ht, .ref hw, .ref hz, .int (bI sp)])), (ho, .inl (E.2 2, 1, .inr (.inl (vp_updL o 0 ((oI (syF t)).toInt64)))))]) rfl (by omega) (by decide) (x' := (oI (syF t)).toInt64) (rfl) rfl d_Q_symbol_8 rfl ?_
  refine x_goto 15 hB d_Q_symbol_9 (by decide) ?_
  refine x_iconst (v := nI 0) 16 hB d_Q_symbol_15 rfl (by decide) ?_
  exact x_iret hB (w' := [(hx, .inr (4, [.ref h0, .ref h1, .ref ht, .ref hw, .ref hz, .int (bI sp)])), (ho, .inl (E.2 2, 1, .inr (.inl (vp_updL o 0 ((oI (syF t)).toInt64)))))]) hA [0, 1] rfl rfl (xRet_i) (by decide) (by decide) d_Q_symbol_16
abbrev rm_Q_symbol_b : Room := { frames := 7, cells := 1, slots := 6, locals := 105 }
set_option maxHeartbeats 4000000 in
set_option maxRecDepth 100000 in
theorem c_Q_symbol_b (l : Launch) (E : xE) (hx h0 h1 ht hw hz : Nat) (sp : Bool) (hT : xNoTr l) (k : Int32) (hk : k < 0 ∨ nI 1024 ≤ k) (ho : Nat) (o : Nat → Int64) : xC l E y_Q_symbol (.codeWith y_Q_symbol method_4_code 4 (some .int) [(0, 9, 12, 13)]) rm_Q_symbol_b [.ref hx, .int (k), .ref ho] [(hx, .inr (4, [.ref h0, .ref h1, .ref ht, .ref hw, .ref hz, .int (bI sp)])), (ho, .inl (E.2 2, 1, .inr (.inl (o))))] (xRet (some (.int (nI 1))) [(hx, .inr (4, [.ref h0, .ref h1, .ref ht, .ref hw, .ref hz, .int (bI sp)])), (ho, .inl (E.2 2, 1, .inr (.inl (o))))]) := by
  refine x_ofH' (own := "LineCoderLaw") (mn := "symbol") (lv := [(0, .ref hx), (1, .int (k)), (2, .ref ho)]) (plainFor_of_name (by decide)) rfl rfl (Nat.le_of_ble_eq_true rfl) rfl ?_
  intro p_ e_ s_ m_ ar_ be_ me_ c_ A_ hA hB
  refine x_aload_n 1 hB d_Q_symbol_0 rfl rfl ?_
  refine x_iconst (v := nI 0) 2 hB d_Q_symbol_1 rfl (by decide) ?_
  refine x_aload_n 3 hB d_Q_symbol_2 rfl rfl ?_
  refine x_iload_n 4 hB d_Q_symbol_3 rfl rfl ?_
  refine x_callPT (k' := 1) (n' := 6) (rest := [.int (nI 0), .ref ho]) hB (x_pfV (av := [.int (k)]) (q0 := 0) hB w_426 xHd_code w_423 w_424 w_425 rfl rfl nm_X_symbol rfl d_Q_symbol_4) (c_X_symbol_b l E hT hx k hk) w_426 xHd_code w_1 [] rfl rfl ⟨by decide, by decide⟩ ⟨by decide, by decide⟩ rfl rfl (Nat.le_of_ble_eq_true rfl) d_Q_symbol_4 ?_
  refine x_catch1 hB w_343 ⟨by decide, by decide⟩ (by decide) (fun q_ => ?_)
  refine x_astore_n 13 hB d_Q_symbol_12 rfl (by decide) (lv' := [(3, .ref q_), (0, .ref hx), (1, .int (k)), (2, .ref ho)]) rfl ?_
  refine x_iconst (v := nI 1) 14 hB d_Q_symbol_13 rfl (by decide) ?_
  exact x_iret hB (w' := [(hx, .inr (4, [.ref h0, .ref h1, .ref ht, .ref hw, .ref hz, .int (bI sp)])), (ho, .inl (E.2 2, 1, .inr (.inl (o))))]) hA [0, 1] rfl rfl (xRet_i) (by decide) (by decide) d_Q_symbol_14
abbrev rm_Q_send : Room := { frames := 4, cells := 0, slots := 0, locals := 93 }
set_option maxHeartbeats 4000000 in
set_option maxRecDepth 100000 in
theorem c_Q_send (l : Launch) (E : xE) (hx h0 h1 ht hw hz : Nat) (sp : Bool) (a0 n p : Nat) (f : Nat → Int32) (s : Nat) (hs : s < 512) (hS : isS s = true) (hq : n + 10 ≤ 2640) (ho : Nat) (o : Nat → Int64) : xC l E y_Q_send (.codeWith y_Q_send method_5_code 4 (some .int) [(0, 9, 12, 13), (0, 9, 15, 22)]) rm_Q_send [.ref hx, .int (nI (s)), .ref ho] [(hx, .inr (4, [.ref h0, .ref h1, .ref ht, .ref hw, .ref hz, .int (bI sp)])), (h0, .inr (0, [.ref a0, .int (nI (n)), .int (nI (p))])), (a0, .inl (E.2 0, 2640, .inl (f))), (ho, .inl (E.2 2, 1, .inr (.inl (o))))] (xRet (some (.int (nI 0))) [(hx, .inr (4, [.ref h0, .ref h1, .ref ht, .ref hw, .ref hz, .int (bI (pbT (encF s sp) sp))])), (h0, .inr (0, [.ref a0, .int (nI (n + 10)), .int (nI (p))])), (a0, .inl (E.2 0, 2640, .inl (apF f n (nI (encF s sp)) 10 10))), (ho, .inl (E.2 2, 1, .inr (.inl (vp_updL o 0 ((nI (encF s sp)).toInt64)))))]) := by
  refine x_ofH' (own := "LineCoderLaw") (mn := "send") (lv := [(0, .ref hx), (1, .int (nI (s))), (2, .ref ho)]) (plainFor_of_name (by decide)) rfl rfl (Nat.le_of_ble_eq_true rfl) rfl ?_
  intro p_ e_ s_ m_ ar_ be_ me_ c_ A_ hA hB
  refine x_aload_n 1 hB d_Q_send_0 rfl rfl ?_
  refine x_iconst (v := nI 0) 2 hB d_Q_send_1 rfl (by decide) ?_
  refine x_aload_n 3 hB d_Q_send_2 rfl rfl ?_
  refine x_iload_n 4 hB d_Q_send_3 rfl rfl ?_
  refine x_callD (k' := 0) (n' := 0) (rest := [.int (nI 0), .ref ho]) (wr := [(ho, .inl (E.2 2, 1, .inr (.inl (o))))]) (ws' := [(ho, .inl (E.2 2, 1, .inr (.inl (o)))), (hx, .inr (4, [.ref h0, .ref h1, .ref ht, .ref hw, .ref hz, .int (bI (pbT (encF s sp) sp))])), (h0, .inr (0, [.ref a0, .int (nI (n + 10)), .int (nI (p))])), (a0, .inl (E.2 0, 2640, .inl (apF f n (nI (encF s sp)) 10 10)))]) (st' := [.int (nI (encF s sp)), .int (nI 0), .ref ho]) 7 hB (x_pfV (av := [.int (nI (s))]) (q0 := 0) hB w_436 xHd_code w_433 w_434 w_435 rfl rfl nm_X_send rfl d_Q_send_4) (c_X_send l E hx h0 h1 ht hw hz sp a0 n p f s hs hS hq) w_436 xHd_code w_1 [0, 1, 2] [3] rfl rfl rfl rfl (by decide) ⟨by decide, by decide⟩ ⟨by decide, by decide⟩ rfl rfl (Nat.le_of_ble_eq_true rfl) d_Q_send_4 rfl rfl rfl ?_
  refine x_i2l (v := (nI (encF s sp)).toInt64) 8 hB d_Q_send_7 rfl (rfl) ?_
  refine x_last 9 hB 0 (ws' := [(ho, .inl (E.2 2, 1, .inr (.inl (vp_updL o 0 ((nI (encF s sp)).toInt64))))), (hx, .inr (4, [.ref h0, .ref h1, .ref ht, .ref hw, .ref hz, .int (bI (pbT (encF s sp) sp))])), (h0, .inr (0, [.ref a0, .int (nI (n + 10)), .int (nI (p))])), (a0, .inl (E.2 0, 2640, .inl (apF f n (nI (encF s sp)) 10 10)))]) rfl (by omega) (by decide) (x' := (nI (encF s sp)).toInt64) (rfl) rfl d_Q_send_8 rfl ?_
  refine x_goto 18 hB d_Q_send_9 (by decide) ?_
  refine x_iconst (v := nI 0) 19 hB d_Q_send_18 rfl (by decide) ?_
  exact x_iret hB (w' := [(hx, .inr (4, [.ref h0, .ref h1, .ref ht, .ref hw, .ref hz, .int (bI (pbT (encF s sp) sp))])), (h0, .inr (0, [.ref a0, .int (nI (n + 10)), .int (nI (p))])), (a0, .inl (E.2 0, 2640, .inl (apF f n (nI (encF s sp)) 10 10))), (ho, .inl (E.2 2, 1, .inr (.inl (vp_updL o 0 ((nI (encF s sp)).toInt64)))))]) hA [1, 2, 3, 0] rfl rfl (xRet_i) (by decide) (by decide) d_Q_send_19
abbrev rm_Q_send_b : Room := { frames := 8, cells := 1, slots := 6, locals := 125 }
set_option maxHeartbeats 4000000 in
set_option maxRecDepth 100000 in
theorem c_Q_send_b (l : Launch) (E : xE) (hx h0 h1 ht hw hz : Nat) (sp : Bool) (hT : xNoTr l) (s : Nat) (hs : s < 512) (hS : isS s = false) (ho : Nat) (o : Nat → Int64) : xC l E y_Q_send (.codeWith y_Q_send method_5_code 4 (some .int) [(0, 9, 12, 13), (0, 9, 15, 22)]) rm_Q_send_b [.ref hx, .int (nI (s)), .ref ho] [(hx, .inr (4, [.ref h0, .ref h1, .ref ht, .ref hw, .ref hz, .int (bI sp)])), (ho, .inl (E.2 2, 1, .inr (.inl (o))))] (xRet (some (.int (nI 1))) [(hx, .inr (4, [.ref h0, .ref h1, .ref ht, .ref hw, .ref hz, .int (bI sp)])), (ho, .inl (E.2 2, 1, .inr (.inl (o))))]) := by
  refine x_ofH' (own := "LineCoderLaw") (mn := "send") (lv := [(0, .ref hx), (1, .int (nI (s))), (2, .ref ho)]) (plainFor_of_name (by decide)) rfl rfl (Nat.le_of_ble_eq_true rfl) rfl ?_
  intro p_ e_ s_ m_ ar_ be_ me_ c_ A_ hA hB
  refine x_aload_n 1 hB d_Q_send_0 rfl rfl ?_
  refine x_iconst (v := nI 0) 2 hB d_Q_send_1 rfl (by decide) ?_
  refine x_aload_n 3 hB d_Q_send_2 rfl rfl ?_
  refine x_iload_n 4 hB d_Q_send_3 rfl rfl ?_
  refine x_callPT (k' := 1) (n' := 6) (rest := [.int (nI 0), .ref ho]) hB (x_pfV (av := [.int (nI (s))]) (q0 := 0) hB w_436 xHd_code w_433 w_434 w_435 rfl rfl nm_X_send rfl d_Q_send_4) (c_X_send_b l E hT hx s hs hS) w_436 xHd_code w_1 [] rfl rfl ⟨by decide, by decide⟩ ⟨by decide, by decide⟩ rfl rfl (Nat.le_of_ble_eq_true rfl) d_Q_send_4 ?_
  refine x_catch1 hB w_343 ⟨by decide, by decide⟩ (by decide) (fun q_ => ?_)
  refine x_astore_n 13 hB d_Q_send_12 rfl (by decide) (lv' := [(3, .ref q_), (0, .ref hx), (1, .int (nI (s))), (2, .ref ho)]) rfl ?_
  refine x_iconst (v := nI 1) 14 hB d_Q_send_13 rfl (by decide) ?_
  exact x_iret hB (w' := [(hx, .inr (4, [.ref h0, .ref h1, .ref ht, .ref hw, .ref hz, .int (bI sp)])), (ho, .inl (E.2 2, 1, .inr (.inl (o))))]) hA [0, 1] rfl rfl (xRet_i) (by decide) (by decide) d_Q_send_14
abbrev rm_Q_send_o : Room := { frames := 8, cells := 1, slots := 6, locals := 125 }
set_option maxHeartbeats 4000000 in
set_option maxRecDepth 100000 in
theorem c_Q_send_o (l : Launch) (E : xE) (hx h0 h1 ht hw hz : Nat) (sp : Bool) (hT : xNoTr l) (k : Int32) (hk : k < 0 ∨ nI 512 ≤ k) (ho : Nat) (o : Nat → Int64) : xC l E y_Q_send (.codeWith y_Q_send method_5_code 4 (some .int) [(0, 9, 12, 13), (0, 9, 15, 22)]) rm_Q_send_o [.ref hx, .int (k), .ref ho] [(hx, .inr (4, [.ref h0, .ref h1, .ref ht, .ref hw, .ref hz, .int (bI sp)])), (ho, .inl (E.2 2, 1, .inr (.inl (o))))] (xRet (some (.int (nI 1))) [(hx, .inr (4, [.ref h0, .ref h1, .ref ht, .ref hw, .ref hz, .int (bI sp)])), (ho, .inl (E.2 2, 1, .inr (.inl (o))))]) := by
  refine x_ofH' (own := "LineCoderLaw") (mn := "send") (lv := [(0, .ref hx), (1, .int (k)), (2, .ref ho)]) (plainFor_of_name (by decide)) rfl rfl (Nat.le_of_ble_eq_true rfl) rfl ?_
  intro p_ e_ s_ m_ ar_ be_ me_ c_ A_ hA hB
  refine x_aload_n 1 hB d_Q_send_0 rfl rfl ?_
  refine x_iconst (v := nI 0) 2 hB d_Q_send_1 rfl (by decide) ?_
  refine x_aload_n 3 hB d_Q_send_2 rfl rfl ?_
  refine x_iload_n 4 hB d_Q_send_3 rfl rfl ?_
  refine x_callPT (k' := 1) (n' := 6) (rest := [.int (nI 0), .ref ho]) hB (x_pfV (av := [.int (k)]) (q0 := 0) hB w_436 xHd_code w_433 w_434 w_435 rfl rfl nm_X_send rfl d_Q_send_4) (c_X_send_o l E hT hx k hk) w_436 xHd_code w_1 [] rfl rfl ⟨by decide, by decide⟩ ⟨by decide, by decide⟩ rfl rfl (Nat.le_of_ble_eq_true rfl) d_Q_send_4 ?_
  refine x_catch1 hB w_343 ⟨by decide, by decide⟩ (by decide) (fun q_ => ?_)
  refine x_astore_n 13 hB d_Q_send_12 rfl (by decide) (lv' := [(3, .ref q_), (0, .ref hx), (1, .int (k)), (2, .ref ho)]) rfl ?_
  refine x_iconst (v := nI 1) 14 hB d_Q_send_13 rfl (by decide) ?_
  exact x_iret hB (w' := [(hx, .inr (4, [.ref h0, .ref h1, .ref ht, .ref hw, .ref hz, .int (bI sp)])), (ho, .inl (E.2 2, 1, .inr (.inl (o))))]) hA [0, 1] rfl rfl (xRet_i) (by decide) (by decide) d_Q_send_14
abbrev rm_Q_send_f : Room := { frames := 8, cells := 1, slots := 6, locals := 126 }
set_option maxHeartbeats 4000000 in
set_option maxRecDepth 100000 in
theorem c_Q_send_f (l : Launch) (E : xE) (hx h0 h1 ht hw hz : Nat) (sp : Bool) (hT : xNoTr l) (a0 n p : Nat) (s : Nat) (hs : s < 512) (hS : isS s = true) (hn : n ≤ 2640) (hq : 2640 < n + 10) (ho : Nat) (o : Nat → Int64) : xC l E y_Q_send (.codeWith y_Q_send method_5_code 4 (some .int) [(0, 9, 12, 13), (0, 9, 15, 22)]) rm_Q_send_f [.ref hx, .int (nI (s)), .ref ho] [(hx, .inr (4, [.ref h0, .ref h1, .ref ht, .ref hw, .ref hz, .int (bI sp)])), (h0, .inr (0, [.ref a0, .int (nI (n)), .int (nI (p))])), (ho, .inl (E.2 2, 1, .inr (.inl (o))))] (xRet (some (.int (nI 2))) [(hx, .inr (4, [.ref h0, .ref h1, .ref ht, .ref hw, .ref hz, .int (bI sp)])), (h0, .inr (0, [.ref a0, .int (nI (n)), .int (nI (p))])), (ho, .inl (E.2 2, 1, .inr (.inl (o))))]) := by
  refine x_ofH' (own := "LineCoderLaw") (mn := "send") (lv := [(0, .ref hx), (1, .int (nI (s))), (2, .ref ho)]) (plainFor_of_name (by decide)) rfl rfl (Nat.le_of_ble_eq_true rfl) rfl ?_
  intro p_ e_ s_ m_ ar_ be_ me_ c_ A_ hA hB
  refine x_aload_n 1 hB d_Q_send_0 rfl rfl ?_
  refine x_iconst (v := nI 0) 2 hB d_Q_send_1 rfl (by decide) ?_
  refine x_aload_n 3 hB d_Q_send_2 rfl rfl ?_
  refine x_iload_n 4 hB d_Q_send_3 rfl rfl ?_
  refine x_callPT (k' := 1) (n' := 6) (rest := [.int (nI 0), .ref ho]) hB (x_pfV (av := [.int (nI (s))]) (q0 := 0) hB w_436 xHd_code w_433 w_434 w_435 rfl rfl nm_X_send rfl d_Q_send_4) (c_X_send_f l E hT hx h0 h1 ht hw hz sp a0 n p s hs hS hn hq) w_436 xHd_code w_1 [0, 1] rfl rfl ⟨by decide, by decide⟩ ⟨by decide, by decide⟩ rfl rfl (Nat.le_of_ble_eq_true rfl) d_Q_send_4 ?_
  refine x_catch2 hB w_343 w_432 hB.qz.1.2.1 ⟨by decide, by decide⟩ (by decide) ⟨by decide, by decide⟩ (by decide) (fun q_ => ?_)
  refine x_astore_n 16 hB d_Q_send_15 rfl (by decide) (lv' := [(3, .ref q_), (0, .ref hx), (1, .int (nI (s))), (2, .ref ho)]) rfl ?_
  refine x_iconst (v := nI 2) 17 hB d_Q_send_16 rfl (by decide) ?_
  exact x_iret hB (w' := [(hx, .inr (4, [.ref h0, .ref h1, .ref ht, .ref hw, .ref hz, .int (bI sp)])), (h0, .inr (0, [.ref a0, .int (nI (n)), .int (nI (p))])), (ho, .inl (E.2 2, 1, .inr (.inl (o))))]) hA [0, 1, 2] rfl rfl (xRet_i) (by decide) (by decide) d_Q_send_17
abbrev rm_Q_put : Room := { frames := 3, cells := 0, slots := 0, locals := 68 }
set_option maxHeartbeats 4000000 in
set_option maxRecDepth 100000 in
theorem c_Q_put (l : Launch) (E : xE) (hx h0 h1 ht hw hz : Nat) (sp : Bool) (a0 n p : Nat) (f : Nat → Int32) (w x : Int64) (ct : Bool) (hr : n + 66 ≤ 2640) (ho : Nat) (o : Nat → Int64) : xC l E y_Q_put (.codeWith y_Q_put method_6_code 6 (some .int) [(0, 11, 14, 22)]) rm_Q_put [.ref hx, .long (x), .int (bI ct), .ref ho] [(hx, .inr (4, [.ref h0, .ref h1, .ref ht, .ref hw, .ref hz, .int (bI sp)])), (h1, .inr (0, [.ref a0, .int (nI (n)), .int (nI (p))])), (a0, .inl (E.2 0, 2640, .inl (f))), (hz, .inr (1, [.long (w)])), (ho, .inl (E.2 2, 1, .inr (.inl (o))))] (xRet (some (.int (nI 0))) [(hx, .inr (4, [.ref h0, .ref h1, .ref ht, .ref hw, .ref hz, .int (bI sp)])), (h1, .inr (0, [.ref a0, .int (nI (n + 2 + 64)), .int (nI (p))])), (a0, .inl (E.2 0, 2640, .inl ((ptF x (apF f n (hdF ct) 2 2) (n + 2) w 64).2))), (hz, .inr (1, [.long ((ptF x (apF f n (hdF ct) 2 2) (n + 2) w 64).1)])), (ho, .inl (E.2 2, 1, .inr (.inl (vp_updL o 0 ((nI (n + 2 + 64)).toInt64)))))]) := by
  refine x_ofH' (own := "LineCoderLaw") (mn := "put") (lv := [(0, .ref hx), (1, .long (x)), (3, .int (bI ct)), (4, .ref ho)]) (plainFor_of_name (by decide)) rfl rfl (Nat.le_of_ble_eq_true rfl) rfl ?_
  intro p_ e_ s_ m_ ar_ be_ me_ c_ A_ hA hB
  refine x_aload 2 hB d_Q_put_0 rfl rfl ?_
  refine x_iconst (v := nI 0) 3 hB d_Q_put_2 rfl (by decide) ?_
  refine x_aload_n 4 hB d_Q_put_3 rfl rfl ?_
  refine x_lload_n 5 hB d_Q_put_4 rfl rfl ?_
  refine x_iload_n 6 hB d_Q_put_5 rfl rfl ?_
  refine x_callD (k' := 0) (n' := 0) (rest := [.int (nI 0), .ref ho]) (wr := [(ho, .inl (E.2 2, 1, .inr (.inl (o))))]) (ws' := [(ho, .inl (E.2 2, 1, .inr (.inl (o)))), (hx, .inr (4, [.ref h0, .ref h1, .ref ht, .ref hw, .ref hz, .int (bI sp)])), (h1, .inr (0, [.ref a0, .int (nI (n + 2 + 64)), .int (nI (p))])), (a0, .inl (E.2 0, 2640, .inl ((ptF x (apF f n (hdF ct) 2 2) (n + 2) w 64).2))), (hz, .inr (1, [.long ((ptF x (apF f n (hdF ct) 2 2) (n + 2) w 64).1)]))]) (st' := [.int (nI (n + 2 + 64)), .int (nI 0), .ref ho]) 9 hB (x_pfV (av := [.long (x), .int (bI ct)]) (q0 := 0) hB w_471 xHd_code w_468 w_469 w_470 rfl rfl nm_X_put rfl d_Q_put_6) (c_X_put l E hx h0 h1 ht hw hz sp a0 n p f w x ct hr) w_471 xHd_code w_1 [0, 1, 2, 3] [4] rfl rfl rfl rfl (by decide) ⟨by decide, by decide⟩ ⟨by decide, by decide⟩ rfl rfl (Nat.le_of_ble_eq_true rfl) d_Q_put_6 rfl rfl rfl ?_
  refine x_i2l (v := (nI (n + 2 + 64)).toInt64) 10 hB d_Q_put_9 rfl (rfl) ?_
  refine x_last 11 hB 0 (ws' := [(ho, .inl (E.2 2, 1, .inr (.inl (vp_updL o 0 ((nI (n + 2 + 64)).toInt64))))), (hx, .inr (4, [.ref h0, .ref h1, .ref ht, .ref hw, .ref hz, .int (bI sp)])), (h1, .inr (0, [.ref a0, .int (nI (n + 2 + 64)), .int (nI (p))])), (a0, .inl (E.2 0, 2640, .inl ((ptF x (apF f n (hdF ct) 2 2) (n + 2) w 64).2))), (hz, .inr (1, [.long ((ptF x (apF f n (hdF ct) 2 2) (n + 2) w 64).1)]))]) rfl (by omega) (by decide) (x' := (nI (n + 2 + 64)).toInt64) (rfl) rfl d_Q_put_10 rfl ?_
  refine x_goto 18 hB d_Q_put_11 (by decide) ?_
  refine x_iconst (v := nI 0) 19 hB d_Q_put_18 rfl (by decide) ?_
  exact x_iret hB (w' := [(hx, .inr (4, [.ref h0, .ref h1, .ref ht, .ref hw, .ref hz, .int (bI sp)])), (h1, .inr (0, [.ref a0, .int (nI (n + 2 + 64)), .int (nI (p))])), (a0, .inl (E.2 0, 2640, .inl ((ptF x (apF f n (hdF ct) 2 2) (n + 2) w 64).2))), (hz, .inr (1, [.long ((ptF x (apF f n (hdF ct) 2 2) (n + 2) w 64).1)])), (ho, .inl (E.2 2, 1, .inr (.inl (vp_updL o 0 ((nI (n + 2 + 64)).toInt64)))))]) hA [1, 2, 3, 4, 0] rfl rfl (xRet_i) (by decide) (by decide) d_Q_put_19
abbrev rm_Q_put_f : Room := { frames := 8, cells := 1, slots := 6, locals := 129 }
set_option maxHeartbeats 4000000 in
set_option maxRecDepth 100000 in
theorem c_Q_put_f (l : Launch) (E : xE) (hx h0 h1 ht hw hz : Nat) (sp : Bool) (hT : xNoTr l) (a0 n p : Nat) (x : Int64) (z : Int32) (hn : n ≤ 2640) (hr : 2640 < n + 66) (ho : Nat) (o : Nat → Int64) : xC l E y_Q_put (.codeWith y_Q_put method_6_code 6 (some .int) [(0, 11, 14, 22)]) rm_Q_put_f [.ref hx, .long (x), .int (z), .ref ho] [(hx, .inr (4, [.ref h0, .ref h1, .ref ht, .ref hw, .ref hz, .int (bI sp)])), (h1, .inr (0, [.ref a0, .int (nI (n)), .int (nI (p))])), (ho, .inl (E.2 2, 1, .inr (.inl (o))))] (xRet (some (.int (nI 1))) [(hx, .inr (4, [.ref h0, .ref h1, .ref ht, .ref hw, .ref hz, .int (bI sp)])), (h1, .inr (0, [.ref a0, .int (nI (n)), .int (nI (p))])), (ho, .inl (E.2 2, 1, .inr (.inl (o))))]) := by
  refine x_ofH' (own := "LineCoderLaw") (mn := "put") (lv := [(0, .ref hx), (1, .long (x)), (3, .int (z)), (4, .ref ho)]) (plainFor_of_name (by decide)) rfl rfl (Nat.le_of_ble_eq_true rfl) rfl ?_
  intro p_ e_ s_ m_ ar_ be_ me_ c_ A_ hA hB
  refine x_aload 2 hB d_Q_put_0 rfl rfl ?_
  refine x_iconst (v := nI 0) 3 hB d_Q_put_2 rfl (by decide) ?_
  refine x_aload_n 4 hB d_Q_put_3 rfl rfl ?_
  refine x_lload_n 5 hB d_Q_put_4 rfl rfl ?_
  refine x_iload_n 6 hB d_Q_put_5 rfl rfl ?_
  refine x_callPT (k' := 1) (n' := 6) (rest := [.int (nI 0), .ref ho]) hB (x_pfV (av := [.long (x), .int (z)]) (q0 := 0) hB w_471 xHd_code w_468 w_469 w_470 rfl rfl nm_X_put rfl d_Q_put_6) (c_X_put_f l E hT hx h0 h1 ht hw hz sp a0 n p x z hn hr) w_471 xHd_code w_1 [0, 1] rfl rfl ⟨by decide, by decide⟩ ⟨by decide, by decide⟩ rfl rfl (Nat.le_of_ble_eq_true rfl) d_Q_put_6 ?_
  refine x_catch1 hB w_432 ⟨by decide, by decide⟩ (by decide) (fun q_ => ?_)
  refine x_astore 16 hB d_Q_put_14 rfl (by decide) (lv' := [(5, .ref q_), (0, .ref hx), (1, .long (x)), (3, .int (z)), (4, .ref ho)]) rfl ?_
  refine x_iconst (v := nI 1) 17 hB d_Q_put_16 rfl (by decide) ?_
  exact x_iret hB (w' := [(hx, .inr (4, [.ref h0, .ref h1, .ref ht, .ref hw, .ref hz, .int (bI sp)])), (h1, .inr (0, [.ref a0, .int (nI (n)), .int (nI (p))])), (ho, .inl (E.2 2, 1, .inr (.inl (o))))]) hA [0, 1, 2] rfl rfl (xRet_i) (by decide) (by decide) d_Q_put_17
abbrev rm_Q_raw0 : Room := { frames := 3, cells := 0, slots := 0, locals := 66 }
set_option maxHeartbeats 4000000 in
set_option maxRecDepth 100000 in
theorem c_Q_raw0 (l : Launch) (E : xE) (hx h0 h1 ht hw hz : Nat) (sp : Bool) (a0 n p : Nat) (f : Nat → Int32) (x : Int32) (q : Nat) (hq : q ≤ 32) (hr : n + q ≤ 2640) (ho : Nat) (o : Nat → Int64) : xC l E y_Q_raw (.codeWith y_Q_raw method_7_code 6 (some .int) [(0, 12, 15, 13), (0, 12, 19, 22)]) rm_Q_raw0 [.ref hx, .int (nI 0), .int (x), .int (nI (q)), .ref ho] [(hx, .inr (4, [.ref h0, .ref h1, .ref ht, .ref hw, .ref hz, .int (bI sp)])), (h0, .inr (0, [.ref a0, .int (nI (n)), .int (nI (p))])), (a0, .inl (E.2 0, 2640, .inl (f))), (ho, .inl (E.2 2, 1, .inr (.inl (o))))] (xRet (some (.int (nI 0))) [(hx, .inr (4, [.ref h0, .ref h1, .ref ht, .ref hw, .ref hz, .int (bI sp)])), (h0, .inr (0, [.ref a0, .int (nI (n + q)), .int (nI (p))])), (a0, .inl (E.2 0, 2640, .inl (apF f n x q q))), (ho, .inl (E.2 2, 1, .inr (.inl (vp_updL o 0 ((nI (n + q)).toInt64)))))]) := by
  refine x_ofH' (own := "LineCoderLaw") (mn := "raw") (lv := [(0, .ref hx), (1, .int (nI 0)), (2, .int (x)), (3, .int (nI (q))), (4, .ref ho)]) (plainFor_of_name (by decide)) rfl rfl (Nat.le_of_ble_eq_true rfl) rfl ?_
  intro p_ e_ s_ m_ ar_ be_ me_ c_ A_ hA hB
  refine x_aload 2 hB d_Q_raw_0 rfl rfl ?_
  refine x_iconst (v := nI 0) 3 hB d_Q_raw_2 rfl (by decide) ?_
  refine x_aload_n 4 hB d_Q_raw_3 rfl rfl ?_
  refine x_iload_n 5 hB d_Q_raw_4 rfl rfl ?_
  refine x_iload_n 6 hB d_Q_raw_5 rfl rfl ?_
  refine x_iload_n 7 hB d_Q_raw_6 rfl rfl ?_
  refine x_callD (k' := 0) (n' := 0) (rest := [.int (nI 0), .ref ho]) (wr := [(ho, .inl (E.2 2, 1, .inr (.inl (o))))]) (ws' := [(ho, .inl (E.2 2, 1, .inr (.inl (o)))), (hx, .inr (4, [.ref h0, .ref h1, .ref ht, .ref hw, .ref hz, .int (bI sp)])), (h0, .inr (0, [.ref a0, .int (nI (n + q)), .int (nI (p))])), (a0, .inl (E.2 0, 2640, .inl (apF f n x q q)))]) (st' := [.int (nI (n + q)), .int (nI 0), .ref ho]) 10 hB (x_pfV (av := [.int (nI 0), .int (x), .int (nI (q))]) (q0 := 0) hB w_486 xHd_code w_483 w_484 w_485 rfl rfl nm_X_raw rfl d_Q_raw_7) (c_X_raw0 l E hx h0 h1 ht hw hz sp a0 n p f x q hq hr) w_486 xHd_code w_1 [0, 1, 2] [3] rfl rfl rfl rfl (by decide) ⟨by decide, by decide⟩ ⟨by decide, by decide⟩ rfl rfl (Nat.le_of_ble_eq_true rfl) d_Q_raw_7 rfl rfl rfl ?_
  refine x_i2l (v := (nI (n + q)).toInt64) 11 hB d_Q_raw_10 rfl (rfl) ?_
  refine x_last 12 hB 0 (ws' := [(ho, .inl (E.2 2, 1, .inr (.inl (vp_updL o 0 ((nI (n + q)).toInt64))))), (hx, .inr (4, [.ref h0, .ref h1, .ref ht, .ref hw, .ref hz, .int (bI sp)])), (h0, .inr (0, [.ref a0, .int (nI (n + q)), .int (nI (p))])), (a0, .inl (E.2 0, 2640, .inl (apF f n x q q)))]) rfl (by omega) (by decide) (x' := (nI (n + q)).toInt64) (rfl) rfl d_Q_raw_11 rfl ?_
  refine x_goto 23 hB d_Q_raw_12 (by decide) ?_
  refine x_iconst (v := nI 0) 24 hB d_Q_raw_23 rfl (by decide) ?_
  exact x_iret hB (w' := [(hx, .inr (4, [.ref h0, .ref h1, .ref ht, .ref hw, .ref hz, .int (bI sp)])), (h0, .inr (0, [.ref a0, .int (nI (n + q)), .int (nI (p))])), (a0, .inl (E.2 0, 2640, .inl (apF f n x q q))), (ho, .inl (E.2 2, 1, .inr (.inl (vp_updL o 0 ((nI (n + q)).toInt64)))))]) hA [1, 2, 3, 0] rfl rfl (xRet_i) (by decide) (by decide) d_Q_raw_24
abbrev rm_Q_raw0_m : Room := { frames := 7, cells := 1, slots := 6, locals := 107 }
set_option maxHeartbeats 4000000 in
set_option maxRecDepth 100000 in
theorem c_Q_raw0_m (l : Launch) (E : xE) (hx h0 h1 ht hw hz : Nat) (sp : Bool) (hT : xNoTr l) (x z : Int32) (hz9 : z < 0 ∨ nI 32 < z) (ho : Nat) (o : Nat → Int64) : xC l E y_Q_raw (.codeWith y_Q_raw method_7_code 6 (some .int) [(0, 12, 15, 13), (0, 12, 19, 22)]) rm_Q_raw0_m [.ref hx, .int (nI 0), .int (x), .int (z), .ref ho] [(hx, .inr (4, [.ref h0, .ref h1, .ref ht, .ref hw, .ref hz, .int (bI sp)])), (ho, .inl (E.2 2, 1, .inr (.inl (o))))] (xRet (some (.int (nI 1))) [(hx, .inr (4, [.ref h0, .ref h1, .ref ht, .ref hw, .ref hz, .int (bI sp)])), (ho, .inl (E.2 2, 1, .inr (.inl (o))))]) := by
  refine x_ofH' (own := "LineCoderLaw") (mn := "raw") (lv := [(0, .ref hx), (1, .int (nI 0)), (2, .int (x)), (3, .int (z)), (4, .ref ho)]) (plainFor_of_name (by decide)) rfl rfl (Nat.le_of_ble_eq_true rfl) rfl ?_
  intro p_ e_ s_ m_ ar_ be_ me_ c_ A_ hA hB
  refine x_aload 2 hB d_Q_raw_0 rfl rfl ?_
  refine x_iconst (v := nI 0) 3 hB d_Q_raw_2 rfl (by decide) ?_
  refine x_aload_n 4 hB d_Q_raw_3 rfl rfl ?_
  refine x_iload_n 5 hB d_Q_raw_4 rfl rfl ?_
  refine x_iload_n 6 hB d_Q_raw_5 rfl rfl ?_
  refine x_iload_n 7 hB d_Q_raw_6 rfl rfl ?_
  refine x_callPT (k' := 1) (n' := 6) (rest := [.int (nI 0), .ref ho]) hB (x_pfV (av := [.int (nI 0), .int (x), .int (z)]) (q0 := 0) hB w_486 xHd_code w_483 w_484 w_485 rfl rfl nm_X_raw rfl d_Q_raw_7) (c_X_raw0_m l E hT hx h0 h1 ht hw hz sp x z hz9) w_486 xHd_code w_1 [0] rfl rfl ⟨by decide, by decide⟩ ⟨by decide, by decide⟩ rfl rfl (Nat.le_of_ble_eq_true rfl) d_Q_raw_7 ?_
  refine x_catch1 hB w_343 ⟨by decide, by decide⟩ (by decide) (fun q_ => ?_)
  refine x_astore 17 hB d_Q_raw_15 rfl (by decide) (lv' := [(5, .ref q_), (0, .ref hx), (1, .int (nI 0)), (2, .int (x)), (3, .int (z)), (4, .ref ho)]) rfl ?_
  refine x_iconst (v := nI 1) 18 hB d_Q_raw_17 rfl (by decide) ?_
  exact x_iret hB (w' := [(hx, .inr (4, [.ref h0, .ref h1, .ref ht, .ref hw, .ref hz, .int (bI sp)])), (ho, .inl (E.2 2, 1, .inr (.inl (o))))]) hA [0, 1] rfl rfl (xRet_i) (by decide) (by decide) d_Q_raw_18
abbrev rm_Q_raw0_f : Room := { frames := 8, cells := 1, slots := 6, locals := 128 }
set_option maxHeartbeats 4000000 in
set_option maxRecDepth 100000 in
theorem c_Q_raw0_f (l : Launch) (E : xE) (hx h0 h1 ht hw hz : Nat) (sp : Bool) (hT : xNoTr l) (a0 n p : Nat) (x : Int32) (q : Nat) (hq : q ≤ 32) (hn : n ≤ 2640) (hr : 2640 < n + q) (ho : Nat) (o : Nat → Int64) : xC l E y_Q_raw (.codeWith y_Q_raw method_7_code 6 (some .int) [(0, 12, 15, 13), (0, 12, 19, 22)]) rm_Q_raw0_f [.ref hx, .int (nI 0), .int (x), .int (nI (q)), .ref ho] [(hx, .inr (4, [.ref h0, .ref h1, .ref ht, .ref hw, .ref hz, .int (bI sp)])), (h0, .inr (0, [.ref a0, .int (nI (n)), .int (nI (p))])), (ho, .inl (E.2 2, 1, .inr (.inl (o))))] (xRet (some (.int (nI 2))) [(hx, .inr (4, [.ref h0, .ref h1, .ref ht, .ref hw, .ref hz, .int (bI sp)])), (h0, .inr (0, [.ref a0, .int (nI (n)), .int (nI (p))])), (ho, .inl (E.2 2, 1, .inr (.inl (o))))]) := by
  refine x_ofH' (own := "LineCoderLaw") (mn := "raw") (lv := [(0, .ref hx), (1, .int (nI 0)), (2, .int (x)), (3, .int (nI (q))), (4, .ref ho)]) (plainFor_of_name (by decide)) rfl rfl (Nat.le_of_ble_eq_true rfl) rfl ?_
  intro p_ e_ s_ m_ ar_ be_ me_ c_ A_ hA hB
  refine x_aload 2 hB d_Q_raw_0 rfl rfl ?_
  refine x_iconst (v := nI 0) 3 hB d_Q_raw_2 rfl (by decide) ?_
  refine x_aload_n 4 hB d_Q_raw_3 rfl rfl ?_
  refine x_iload_n 5 hB d_Q_raw_4 rfl rfl ?_
  refine x_iload_n 6 hB d_Q_raw_5 rfl rfl ?_
  refine x_iload_n 7 hB d_Q_raw_6 rfl rfl ?_
  refine x_callPT (k' := 1) (n' := 6) (rest := [.int (nI 0), .ref ho]) hB (x_pfV (av := [.int (nI 0), .int (x), .int (nI (q))]) (q0 := 0) hB w_486 xHd_code w_483 w_484 w_485 rfl rfl nm_X_raw rfl d_Q_raw_7) (c_X_raw0_f l E hT hx h0 h1 ht hw hz sp a0 n p x q hq hn hr) w_486 xHd_code w_1 [0, 1] rfl rfl ⟨by decide, by decide⟩ ⟨by decide, by decide⟩ rfl rfl (Nat.le_of_ble_eq_true rfl) d_Q_raw_7 ?_
  refine x_catch2 hB w_343 w_432 hB.qz.1.2.1 ⟨by decide, by decide⟩ (by decide) ⟨by decide, by decide⟩ (by decide) (fun q_ => ?_)
  refine x_astore 21 hB d_Q_raw_19 rfl (by decide) (lv' := [(5, .ref q_), (0, .ref hx), (1, .int (nI 0)), (2, .int (x)), (3, .int (nI (q))), (4, .ref ho)]) rfl ?_
  refine x_iconst (v := nI 2) 22 hB d_Q_raw_21 rfl (by decide) ?_
  exact x_iret hB (w' := [(hx, .inr (4, [.ref h0, .ref h1, .ref ht, .ref hw, .ref hz, .int (bI sp)])), (h0, .inr (0, [.ref a0, .int (nI (n)), .int (nI (p))])), (ho, .inl (E.2 2, 1, .inr (.inl (o))))]) hA [0, 1, 2] rfl rfl (xRet_i) (by decide) (by decide) d_Q_raw_22
abbrev rm_Q_bend0 : Room := { frames := 3, cells := 0, slots := 0, locals := 65 }
set_option maxHeartbeats 4000000 in
set_option maxRecDepth 100000 in
theorem c_Q_bend0 (l : Launch) (E : xE) (hx h0 h1 ht hw hz : Nat) (sp : Bool) (a0 n p : Nat) (f : Nat → Int32) (j : Nat) (hj : j < n) (hn : n ≤ 2640) (hb : f j = 0 ∨ f j = 1) (ho : Nat) (o : Nat → Int64) : xC l E y_Q_bend (.codeWith y_Q_bend method_8_code 5 (some .int) [(0, 17, 20, 13), (0, 17, 24, 36)]) rm_Q_bend0 [.ref hx, .int (nI 0), .int (nI (j)), .ref ho] [(hx, .inr (4, [.ref h0, .ref h1, .ref ht, .ref hw, .ref hz, .int (bI sp)])), (h0, .inr (0, [.ref a0, .int (nI (n)), .int (nI (p))])), (a0, .inl (E.2 0, 2640, .inl (f))), (ho, .inl (E.2 2, 1, .inr (.inl (o))))] (xRet (some (.int (nI 0))) [(hx, .inr (4, [.ref h0, .ref h1, .ref ht, .ref hw, .ref hz, .int (bI sp)])), (h0, .inr (0, [.ref a0, .int (nI (n)), .int (nI (p))])), (a0, .inl (E.2 0, 2640, .inl (upd f j (1 - f j)))), (ho, .inl (E.2 2, 1, .inr (.inl (vp_updL o 0 (bL (decide (f j = 0)))))))]) := by
  refine x_ofH' (own := "LineCoderLaw") (mn := "bend") (lv := [(0, .ref hx), (1, .int (nI 0)), (2, .int (nI (j))), (3, .ref ho)]) (plainFor_of_name (by decide)) rfl rfl (Nat.le_of_ble_eq_true rfl) rfl ?_
  intro p_ e_ s_ m_ ar_ be_ me_ c_ A_ hA hB
  refine x_aload_n 1 hB d_Q_bend_0 rfl rfl ?_
  refine x_iconst (v := nI 0) 2 hB d_Q_bend_1 rfl (by decide) ?_
  refine x_aload_n 3 hB d_Q_bend_2 rfl rfl ?_
  refine x_iload_n 4 hB d_Q_bend_3 rfl rfl ?_
  refine x_iload_n 5 hB d_Q_bend_4 rfl rfl ?_
  refine x_callD (k' := 0) (n' := 0) (rest := [.int (nI 0), .ref ho]) (wr := [(ho, .inl (E.2 2, 1, .inr (.inl (o))))]) (ws' := [(ho, .inl (E.2 2, 1, .inr (.inl (o)))), (hx, .inr (4, [.ref h0, .ref h1, .ref ht, .ref hw, .ref hz, .int (bI sp)])), (h0, .inr (0, [.ref a0, .int (nI (n)), .int (nI (p))])), (a0, .inl (E.2 0, 2640, .inl (upd f j (1 - f j))))]) (st' := [.int (bI (decide (f j = 0))), .int (nI 0), .ref ho]) 8 hB (x_pfV (av := [.int (nI 0), .int (nI (j))]) (q0 := 0) hB w_500 xHd_code w_497 w_498 w_499 rfl rfl nm_X_bend rfl d_Q_bend_5) (c_X_bend0 l E hx h0 h1 ht hw hz sp a0 n p f j hj hn hb) w_500 xHd_code w_1 [0, 1, 2] [3] rfl rfl rfl rfl (by decide) ⟨by decide, by decide⟩ ⟨by decide, by decide⟩ rfl rfl (Nat.le_of_ble_eq_true rfl) d_Q_bend_5 rfl rfl rfl ?_
  refine x_join 16 (fun _u : Unit => True) (fun _u : Unit => [(ho, .inl (E.2 2, 1, .inr (.inl (o)))), (hx, .inr (4, [.ref h0, .ref h1, .ref ht, .ref hw, .ref hz, .int (bI sp)])), (h0, .inr (0, [.ref a0, .int (nI (n)), .int (nI (p))])), (a0, .inl (E.2 0, 2640, .inl (upd f j (1 - f j))))]) (fun _u : Unit => [(0, .ref hx), (1, .int (nI 0)), (2, .int (nI (j))), (3, .ref ho)]) (fun _u : Unit => [.long (bL (decide (f j = 0))), .int (nI 0), .ref ho]) (fun _u hJ16 => ?_) (fun J16 => ?_)
  · skip
    refine x_last 17 hB 0 (ws' := [(ho, .inl (E.2 2, 1, .inr (.inl (vp_updL o 0 (bL (decide (f j = 0))))))), (hx, .inr (4, [.ref h0, .ref h1, .ref ht, .ref hw, .ref hz, .int (bI sp)])), (h0, .inr (0, [.ref a0, .int (nI (n)), .int (nI (p))])), (a0, .inl (E.2 0, 2640, .inl (upd f j (1 - f j))))]) rfl (by omega) (by decide) (x' := bL (decide (f j = 0))) (rfl) rfl d_Q_bend_16 rfl ?_
    refine x_goto 28 hB d_Q_bend_17 (by decide) ?_
    refine x_iconst (v := nI 0) 29 hB d_Q_bend_28 rfl (by decide) ?_
    exact x_iret hB (w' := [(hx, .inr (4, [.ref h0, .ref h1, .ref ht, .ref hw, .ref hz, .int (bI sp)])), (h0, .inr (0, [.ref a0, .int (nI (n)), .int (nI (p))])), (a0, .inl (E.2 0, 2640, .inl (upd f j (1 - f j)))), (ho, .inl (E.2 2, 1, .inr (.inl (vp_updL o 0 (bL (decide (f j = 0)))))))]) hA [1, 2, 3, 0] rfl rfl (xRet_i) (by decide) (by decide) d_Q_bend_29
  refine x_if_eq 15 11 hB d_Q_bend_8 (by decide) rfl (fun h8 => ?_) (fun h8 => ?_)
  · skip
    have k8 : (decide (f j = 0)) = false := bI_0 h8
    refine x_lconst (v := 0) 16 hB d_Q_bend_15 rfl (by decide) ?_
    refine x_top (v' := .long (bL (decide (f j = 0)))) (congrArg Value.long (by rw [k8]; rfl)) ?_
    exact J16 () trivial
  · skip
    have k8 : (decide (f j = 0)) = true := bI_1 h8
    refine x_lconst (v := 1) 12 hB d_Q_bend_11 rfl (by decide) ?_
    refine x_top (v' := .long (bL (decide (f j = 0)))) (congrArg Value.long (by rw [k8]; rfl)) ?_
    refine x_goto 16 hB d_Q_bend_12 (by decide) ?_
    exact J16 () trivial
abbrev rm_Q_bend0_o : Room := { frames := 7, cells := 1, slots := 6, locals := 106 }
set_option maxHeartbeats 4000000 in
set_option maxRecDepth 100000 in
theorem c_Q_bend0_o (l : Launch) (E : xE) (hx h0 h1 ht hw hz : Nat) (sp : Bool) (hT : xNoTr l) (a0 n p : Nat) (k : Int32) (hk : k < 0 ∨ nI n ≤ k) (ho : Nat) (o : Nat → Int64) : xC l E y_Q_bend (.codeWith y_Q_bend method_8_code 5 (some .int) [(0, 17, 20, 13), (0, 17, 24, 36)]) rm_Q_bend0_o [.ref hx, .int (nI 0), .int (k), .ref ho] [(hx, .inr (4, [.ref h0, .ref h1, .ref ht, .ref hw, .ref hz, .int (bI sp)])), (h0, .inr (0, [.ref a0, .int (nI (n)), .int (nI (p))])), (ho, .inl (E.2 2, 1, .inr (.inl (o))))] (xRet (some (.int (nI 2))) [(hx, .inr (4, [.ref h0, .ref h1, .ref ht, .ref hw, .ref hz, .int (bI sp)])), (h0, .inr (0, [.ref a0, .int (nI (n)), .int (nI (p))])), (ho, .inl (E.2 2, 1, .inr (.inl (o))))]) := by
  refine x_ofH' (own := "LineCoderLaw") (mn := "bend") (lv := [(0, .ref hx), (1, .int (nI 0)), (2, .int (k)), (3, .ref ho)]) (plainFor_of_name (by decide)) rfl rfl (Nat.le_of_ble_eq_true rfl) rfl ?_
  intro p_ e_ s_ m_ ar_ be_ me_ c_ A_ hA hB
  refine x_aload_n 1 hB d_Q_bend_0 rfl rfl ?_
  refine x_iconst (v := nI 0) 2 hB d_Q_bend_1 rfl (by decide) ?_
  refine x_aload_n 3 hB d_Q_bend_2 rfl rfl ?_
  refine x_iload_n 4 hB d_Q_bend_3 rfl rfl ?_
  refine x_iload_n 5 hB d_Q_bend_4 rfl rfl ?_
  refine x_callPT (k' := 1) (n' := 6) (rest := [.int (nI 0), .ref ho]) hB (x_pfV (av := [.int (nI 0), .int (k)]) (q0 := 0) hB w_500 xHd_code w_497 w_498 w_499 rfl rfl nm_X_bend rfl d_Q_bend_5) (c_X_bend0_o l E hT hx h0 h1 ht hw hz sp a0 n p k hk) w_500 xHd_code w_1 [0, 1] rfl rfl ⟨by decide, by decide⟩ ⟨by decide, by decide⟩ rfl rfl (Nat.le_of_ble_eq_true rfl) d_Q_bend_5 ?_
  refine x_catch2 hB w_343 w_496 hB.qz.1.2.2 ⟨by decide, by decide⟩ (by decide) ⟨by decide, by decide⟩ (by decide) (fun q_ => ?_)
  refine x_astore 26 hB d_Q_bend_24 rfl (by decide) (lv' := [(4, .ref q_), (0, .ref hx), (1, .int (nI 0)), (2, .int (k)), (3, .ref ho)]) rfl ?_
  refine x_iconst (v := nI 2) 27 hB d_Q_bend_26 rfl (by decide) ?_
  exact x_iret hB (w' := [(hx, .inr (4, [.ref h0, .ref h1, .ref ht, .ref hw, .ref hz, .int (bI sp)])), (h0, .inr (0, [.ref a0, .int (nI (n)), .int (nI (p))])), (ho, .inl (E.2 2, 1, .inr (.inl (o))))]) hA [0, 1, 2] rfl rfl (xRet_i) (by decide) (by decide) d_Q_bend_27
abbrev rm_Q_lose0 : Room := { frames := 3, cells := 0, slots := 0, locals := 108 }
set_option maxHeartbeats 4000000 in
set_option maxRecDepth 100000 in
theorem c_Q_lose0 (l : Launch) (E : xE) (hx h0 h1 ht hw hz : Nat) (sp : Bool) (a0 n p : Nat) (f : Nat → Int32) (j q : Nat) (hj : j < n) (hpj : p ≤ j) (hn : n ≤ 2640) (hq : 0 < q) (hq2 : q < 2147483648) (hb : ∀ i, i < n → f i = 0 ∨ f i = 1) (ho : Nat) (o : Nat → Int64) : xC l E y_Q_lose (.codeWith y_Q_lose method_9_code 6 (some .int) [(0, 12, 15, 13)]) rm_Q_lose0 [.ref hx, .int (nI 0), .int (nI (j)), .int (nI (q)), .ref ho] [(hx, .inr (4, [.ref h0, .ref h1, .ref ht, .ref hw, .ref hz, .int (bI sp)])), (h0, .inr (0, [.ref a0, .int (nI (n)), .int (nI (p))])), (a0, .inl (E.2 0, 2640, .inl (f))), (ho, .inl (E.2 2, 1, .inr (.inl (o))))] (xRet (some (.int (nI 0))) [(hx, .inr (4, [.ref h0, .ref h1, .ref ht, .ref hw, .ref hz, .int (bI sp)])), (h0, .inr (0, [.ref a0, .int (nI (n - min q (n - j))), .int (nI (p))])), (a0, .inl (E.2 0, 2640, .inl (va_cpy f f (j + min q (n - j)) j (n - (j + min q (n - j)))))), (ho, .inl (E.2 2, 1, .inr (.inl (vp_updL o 0 ((nI (min q (n - j))).toInt64)))))]) := by
  refine x_ofH' (own := "LineCoderLaw") (mn := "lose") (lv := [(0, .ref hx), (1, .int (nI 0)), (2, .int (nI (j))), (3, .int (nI (q))), (4, .ref ho)]) (plainFor_of_name (by decide)) rfl rfl (Nat.le_of_ble_eq_true rfl) rfl ?_
  intro p_ e_ s_ m_ ar_ be_ me_ c_ A_ hA hB
  refine x_aload 2 hB d_Q_lose_0 rfl rfl ?_
  refine x_iconst (v := nI 0) 3 hB d_Q_lose_2 rfl (by decide) ?_
  refine x_aload_n 4 hB d_Q_lose_3 rfl rfl ?_
  refine x_iload_n 5 hB d_Q_lose_4 rfl rfl ?_
  refine x_iload_n 6 hB d_Q_lose_5 rfl rfl ?_
  refine x_iload_n 7 hB d_Q_lose_6 rfl rfl ?_
  refine x_callD (k' := 0) (n' := 0) (rest := [.int (nI 0), .ref ho]) (wr := [(ho, .inl (E.2 2, 1, .inr (.inl (o))))]) (ws' := [(ho, .inl (E.2 2, 1, .inr (.inl (o)))), (hx, .inr (4, [.ref h0, .ref h1, .ref ht, .ref hw, .ref hz, .int (bI sp)])), (h0, .inr (0, [.ref a0, .int (nI (n - min q (n - j))), .int (nI (p))])), (a0, .inl (E.2 0, 2640, .inl (va_cpy f f (j + min q (n - j)) j (n - (j + min q (n - j))))))]) (st' := [.int (nI (min q (n - j))), .int (nI 0), .ref ho]) 10 hB (x_pfV (av := [.int (nI 0), .int (nI (j)), .int (nI (q))]) (q0 := 0) hB w_529 xHd_code w_526 w_527 w_528 rfl rfl nm_X_lose rfl d_Q_lose_7) (c_X_lose0 l E hx h0 h1 ht hw hz sp a0 n p f j q hj hpj hn hq hq2 hb) w_529 xHd_code w_1 [0, 1, 2] [3] rfl rfl rfl rfl (by decide) ⟨by decide, by decide⟩ ⟨by decide, by decide⟩ rfl rfl (Nat.le_of_ble_eq_true rfl) d_Q_lose_7 rfl rfl rfl ?_
  refine x_i2l (v := (nI (min q (n - j))).toInt64) 11 hB d_Q_lose_10 rfl (rfl) ?_
  refine x_last 12 hB 0 (ws' := [(ho, .inl (E.2 2, 1, .inr (.inl (vp_updL o 0 ((nI (min q (n - j))).toInt64))))), (hx, .inr (4, [.ref h0, .ref h1, .ref ht, .ref hw, .ref hz, .int (bI sp)])), (h0, .inr (0, [.ref a0, .int (nI (n - min q (n - j))), .int (nI (p))])), (a0, .inl (E.2 0, 2640, .inl (va_cpy f f (j + min q (n - j)) j (n - (j + min q (n - j))))))]) rfl (by omega) (by decide) (x' := (nI (min q (n - j))).toInt64) (rfl) rfl d_Q_lose_11 rfl ?_
  refine x_goto 19 hB d_Q_lose_12 (by decide) ?_
  refine x_iconst (v := nI 0) 20 hB d_Q_lose_19 rfl (by decide) ?_
  exact x_iret hB (w' := [(hx, .inr (4, [.ref h0, .ref h1, .ref ht, .ref hw, .ref hz, .int (bI sp)])), (h0, .inr (0, [.ref a0, .int (nI (n - min q (n - j))), .int (nI (p))])), (a0, .inl (E.2 0, 2640, .inl (va_cpy f f (j + min q (n - j)) j (n - (j + min q (n - j)))))), (ho, .inl (E.2 2, 1, .inr (.inl (vp_updL o 0 ((nI (min q (n - j))).toInt64)))))]) hA [1, 2, 3, 0] rfl rfl (xRet_i) (by decide) (by decide) d_Q_lose_20
abbrev rm_Q_lose0_z : Room := { frames := 3, cells := 0, slots := 0, locals := 69 }
set_option maxHeartbeats 4000000 in
set_option maxRecDepth 100000 in
theorem c_Q_lose0_z (l : Launch) (E : xE) (hx h0 h1 ht hw hz : Nat) (sp : Bool) (a0 n p : Nat) (f : Nat → Int32) (j : Nat) (hj : j < n) (hpj : p ≤ j) (hn : n ≤ 2640) (ho : Nat) (o : Nat → Int64) : xC l E y_Q_lose (.codeWith y_Q_lose method_9_code 6 (some .int) [(0, 12, 15, 13)]) rm_Q_lose0_z [.ref hx, .int (nI 0), .int (nI (j)), .int (nI (0)), .ref ho] [(hx, .inr (4, [.ref h0, .ref h1, .ref ht, .ref hw, .ref hz, .int (bI sp)])), (h0, .inr (0, [.ref a0, .int (nI (n)), .int (nI (p))])), (a0, .inl (E.2 0, 2640, .inl (f))), (ho, .inl (E.2 2, 1, .inr (.inl (o))))] (xRet (some (.int (nI 0))) [(hx, .inr (4, [.ref h0, .ref h1, .ref ht, .ref hw, .ref hz, .int (bI sp)])), (h0, .inr (0, [.ref a0, .int (nI (n)), .int (nI (p))])), (a0, .inl (E.2 0, 2640, .inl (f))), (ho, .inl (E.2 2, 1, .inr (.inl (vp_updL o 0 ((nI 0).toInt64)))))]) := by
  refine x_ofH' (own := "LineCoderLaw") (mn := "lose") (lv := [(0, .ref hx), (1, .int (nI 0)), (2, .int (nI (j))), (3, .int (nI (0))), (4, .ref ho)]) (plainFor_of_name (by decide)) rfl rfl (Nat.le_of_ble_eq_true rfl) rfl ?_
  intro p_ e_ s_ m_ ar_ be_ me_ c_ A_ hA hB
  refine x_aload 2 hB d_Q_lose_0 rfl rfl ?_
  refine x_iconst (v := nI 0) 3 hB d_Q_lose_2 rfl (by decide) ?_
  refine x_aload_n 4 hB d_Q_lose_3 rfl rfl ?_
  refine x_iload_n 5 hB d_Q_lose_4 rfl rfl ?_
  refine x_iload_n 6 hB d_Q_lose_5 rfl rfl ?_
  refine x_iload_n 7 hB d_Q_lose_6 rfl rfl ?_
  refine x_callP (k' := 0) (n' := 0) (rest := [.int (nI 0), .ref ho]) (st' := [.int (nI 0), .int (nI 0), .ref ho]) 10 hB (x_pfV (av := [.int (nI 0), .int (nI (j)), .int (nI (0))]) (q0 := 0) hB w_529 xHd_code w_526 w_527 w_528 rfl rfl nm_X_lose rfl d_Q_lose_7) (c_X_lose0_z l E hx h0 h1 ht hw hz sp a0 n p f j hj hpj hn) w_529 xHd_code w_1 [0, 1, 2] rfl rfl ⟨by decide, by decide⟩ ⟨by decide, by decide⟩ rfl rfl (Nat.le_of_ble_eq_true rfl) d_Q_lose_7 rfl rfl ?_
  refine x_i2l (v := (nI 0).toInt64) 11 hB d_Q_lose_10 rfl (rfl) ?_
  refine x_last 12 hB 3 (ws' := [(hx, .inr (4, [.ref h0, .ref h1, .ref ht, .ref hw, .ref hz, .int (bI sp)])), (h0, .inr (0, [.ref a0, .int (nI (n)), .int (nI (p))])), (a0, .inl (E.2 0, 2640, .inl (f))), (ho, .inl (E.2 2, 1, .inr (.inl (vp_updL o 0 ((nI 0).toInt64)))))]) rfl (by omega) (by decide) (x' := (nI 0).toInt64) (rfl) rfl d_Q_lose_11 rfl ?_
  refine x_goto 19 hB d_Q_lose_12 (by decide) ?_
  refine x_iconst (v := nI 0) 20 hB d_Q_lose_19 rfl (by decide) ?_
  exact x_iret hB (w' := [(hx, .inr (4, [.ref h0, .ref h1, .ref ht, .ref hw, .ref hz, .int (bI sp)])), (h0, .inr (0, [.ref a0, .int (nI (n)), .int (nI (p))])), (a0, .inl (E.2 0, 2640, .inl (f))), (ho, .inl (E.2 2, 1, .inr (.inl (vp_updL o 0 ((nI 0).toInt64)))))]) hA [0, 1, 2, 3] rfl rfl (xRet_i) (by decide) (by decide) d_Q_lose_20
abbrev rm_Q_lose0_o : Room := { frames := 3, cells := 0, slots := 0, locals := 69 }
set_option maxHeartbeats 4000000 in
set_option maxRecDepth 100000 in
theorem c_Q_lose0_o (l : Launch) (E : xE) (hx h0 h1 ht hw hz : Nat) (sp : Bool) (a0 n p : Nat) (f : Nat → Int32) (k z : Int32) (hz9 : 0 ≤ z) (hk : nI n ≤ k) (hpk : nI p ≤ k) (ho : Nat) (o : Nat → Int64) : xC l E y_Q_lose (.codeWith y_Q_lose method_9_code 6 (some .int) [(0, 12, 15, 13)]) rm_Q_lose0_o [.ref hx, .int (nI 0), .int (k), .int (z), .ref ho] [(hx, .inr (4, [.ref h0, .ref h1, .ref ht, .ref hw, .ref hz, .int (bI sp)])), (h0, .inr (0, [.ref a0, .int (nI (n)), .int (nI (p))])), (a0, .inl (E.2 0, 2640, .inl (f))), (ho, .inl (E.2 2, 1, .inr (.inl (o))))] (xRet (some (.int (nI 0))) [(hx, .inr (4, [.ref h0, .ref h1, .ref ht, .ref hw, .ref hz, .int (bI sp)])), (h0, .inr (0, [.ref a0, .int (nI (n)), .int (nI (p))])), (a0, .inl (E.2 0, 2640, .inl (f))), (ho, .inl (E.2 2, 1, .inr (.inl (vp_updL o 0 ((nI 0).toInt64)))))]) := by
  refine x_ofH' (own := "LineCoderLaw") (mn := "lose") (lv := [(0, .ref hx), (1, .int (nI 0)), (2, .int (k)), (3, .int (z)), (4, .ref ho)]) (plainFor_of_name (by decide)) rfl rfl (Nat.le_of_ble_eq_true rfl) rfl ?_
  intro p_ e_ s_ m_ ar_ be_ me_ c_ A_ hA hB
  refine x_aload 2 hB d_Q_lose_0 rfl rfl ?_
  refine x_iconst (v := nI 0) 3 hB d_Q_lose_2 rfl (by decide) ?_
  refine x_aload_n 4 hB d_Q_lose_3 rfl rfl ?_
  refine x_iload_n 5 hB d_Q_lose_4 rfl rfl ?_
  refine x_iload_n 6 hB d_Q_lose_5 rfl rfl ?_
  refine x_iload_n 7 hB d_Q_lose_6 rfl rfl ?_
  refine x_callP (k' := 0) (n' := 0) (rest := [.int (nI 0), .ref ho]) (st' := [.int (nI 0), .int (nI 0), .ref ho]) 10 hB (x_pfV (av := [.int (nI 0), .int (k), .int (z)]) (q0 := 0) hB w_529 xHd_code w_526 w_527 w_528 rfl rfl nm_X_lose rfl d_Q_lose_7) (c_X_lose0_o l E hx h0 h1 ht hw hz sp a0 n p f k z hz9 hk hpk) w_529 xHd_code w_1 [0, 1, 2] rfl rfl ⟨by decide, by decide⟩ ⟨by decide, by decide⟩ rfl rfl (Nat.le_of_ble_eq_true rfl) d_Q_lose_7 rfl rfl ?_
  refine x_i2l (v := (nI 0).toInt64) 11 hB d_Q_lose_10 rfl (rfl) ?_
  refine x_last 12 hB 3 (ws' := [(hx, .inr (4, [.ref h0, .ref h1, .ref ht, .ref hw, .ref hz, .int (bI sp)])), (h0, .inr (0, [.ref a0, .int (nI (n)), .int (nI (p))])), (a0, .inl (E.2 0, 2640, .inl (f))), (ho, .inl (E.2 2, 1, .inr (.inl (vp_updL o 0 ((nI 0).toInt64)))))]) rfl (by omega) (by decide) (x' := (nI 0).toInt64) (rfl) rfl d_Q_lose_11 rfl ?_
  refine x_goto 19 hB d_Q_lose_12 (by decide) ?_
  refine x_iconst (v := nI 0) 20 hB d_Q_lose_19 rfl (by decide) ?_
  exact x_iret hB (w' := [(hx, .inr (4, [.ref h0, .ref h1, .ref ht, .ref hw, .ref hz, .int (bI sp)])), (h0, .inr (0, [.ref a0, .int (nI (n)), .int (nI (p))])), (a0, .inl (E.2 0, 2640, .inl (f))), (ho, .inl (E.2 2, 1, .inr (.inl (vp_updL o 0 ((nI 0).toInt64)))))]) hA [0, 1, 2, 3] rfl rfl (xRet_i) (by decide) (by decide) d_Q_lose_20
abbrev rm_Q_lose0_m : Room := { frames := 7, cells := 1, slots := 6, locals := 107 }
set_option maxHeartbeats 4000000 in
set_option maxRecDepth 100000 in
theorem c_Q_lose0_m (l : Launch) (E : xE) (hx h0 h1 ht hw hz : Nat) (sp : Bool) (hT : xNoTr l) (k z : Int32) (hz9 : ¬ 0 ≤ z) (ho : Nat) (o : Nat → Int64) : xC l E y_Q_lose (.codeWith y_Q_lose method_9_code 6 (some .int) [(0, 12, 15, 13)]) rm_Q_lose0_m [.ref hx, .int (nI 0), .int (k), .int (z), .ref ho] [(hx, .inr (4, [.ref h0, .ref h1, .ref ht, .ref hw, .ref hz, .int (bI sp)])), (ho, .inl (E.2 2, 1, .inr (.inl (o))))] (xRet (some (.int (nI 1))) [(hx, .inr (4, [.ref h0, .ref h1, .ref ht, .ref hw, .ref hz, .int (bI sp)])), (ho, .inl (E.2 2, 1, .inr (.inl (o))))]) := by
  refine x_ofH' (own := "LineCoderLaw") (mn := "lose") (lv := [(0, .ref hx), (1, .int (nI 0)), (2, .int (k)), (3, .int (z)), (4, .ref ho)]) (plainFor_of_name (by decide)) rfl rfl (Nat.le_of_ble_eq_true rfl) rfl ?_
  intro p_ e_ s_ m_ ar_ be_ me_ c_ A_ hA hB
  refine x_aload 2 hB d_Q_lose_0 rfl rfl ?_
  refine x_iconst (v := nI 0) 3 hB d_Q_lose_2 rfl (by decide) ?_
  refine x_aload_n 4 hB d_Q_lose_3 rfl rfl ?_
  refine x_iload_n 5 hB d_Q_lose_4 rfl rfl ?_
  refine x_iload_n 6 hB d_Q_lose_5 rfl rfl ?_
  refine x_iload_n 7 hB d_Q_lose_6 rfl rfl ?_
  refine x_callPT (k' := 1) (n' := 6) (rest := [.int (nI 0), .ref ho]) hB (x_pfV (av := [.int (nI 0), .int (k), .int (z)]) (q0 := 0) hB w_529 xHd_code w_526 w_527 w_528 rfl rfl nm_X_lose rfl d_Q_lose_7) (c_X_lose0_m l E hT hx h0 h1 ht hw hz sp k z hz9) w_529 xHd_code w_1 [0] rfl rfl ⟨by decide, by decide⟩ ⟨by decide, by decide⟩ rfl rfl (Nat.le_of_ble_eq_true rfl) d_Q_lose_7 ?_
  refine x_catch1 hB w_343 ⟨by decide, by decide⟩ (by decide) (fun q_ => ?_)
  refine x_astore 17 hB d_Q_lose_15 rfl (by decide) (lv' := [(5, .ref q_), (0, .ref hx), (1, .int (nI 0)), (2, .int (k)), (3, .int (z)), (4, .ref ho)]) rfl ?_
  refine x_iconst (v := nI 1) 18 hB d_Q_lose_17 rfl (by decide) ?_
  exact x_iret hB (w' := [(hx, .inr (4, [.ref h0, .ref h1, .ref ht, .ref hw, .ref hz, .int (bI sp)])), (ho, .inl (E.2 2, 1, .inr (.inl (o))))]) hA [0, 1] rfl rfl (xRet_i) (by decide) (by decide) d_Q_lose_18
abbrev rm_Q_lose0_p : Room := { frames := 7, cells := 1, slots := 6, locals := 107 }
set_option maxHeartbeats 4000000 in
set_option maxRecDepth 100000 in
theorem c_Q_lose0_p (l : Launch) (E : xE) (hx h0 h1 ht hw hz : Nat) (sp : Bool) (hT : xNoTr l) (a0 n p : Nat) (k z : Int32) (hz9 : 0 ≤ z) (hpk : ¬ nI p ≤ k) (ho : Nat) (o : Nat → Int64) : xC l E y_Q_lose (.codeWith y_Q_lose method_9_code 6 (some .int) [(0, 12, 15, 13)]) rm_Q_lose0_p [.ref hx, .int (nI 0), .int (k), .int (z), .ref ho] [(hx, .inr (4, [.ref h0, .ref h1, .ref ht, .ref hw, .ref hz, .int (bI sp)])), (h0, .inr (0, [.ref a0, .int (nI (n)), .int (nI (p))])), (ho, .inl (E.2 2, 1, .inr (.inl (o))))] (xRet (some (.int (nI 1))) [(hx, .inr (4, [.ref h0, .ref h1, .ref ht, .ref hw, .ref hz, .int (bI sp)])), (h0, .inr (0, [.ref a0, .int (nI (n)), .int (nI (p))])), (ho, .inl (E.2 2, 1, .inr (.inl (o))))]) := by
  refine x_ofH' (own := "LineCoderLaw") (mn := "lose") (lv := [(0, .ref hx), (1, .int (nI 0)), (2, .int (k)), (3, .int (z)), (4, .ref ho)]) (plainFor_of_name (by decide)) rfl rfl (Nat.le_of_ble_eq_true rfl) rfl ?_
  intro p_ e_ s_ m_ ar_ be_ me_ c_ A_ hA hB
  refine x_aload 2 hB d_Q_lose_0 rfl rfl ?_
  refine x_iconst (v := nI 0) 3 hB d_Q_lose_2 rfl (by decide) ?_
  refine x_aload_n 4 hB d_Q_lose_3 rfl rfl ?_
  refine x_iload_n 5 hB d_Q_lose_4 rfl rfl ?_
  refine x_iload_n 6 hB d_Q_lose_5 rfl rfl ?_
  refine x_iload_n 7 hB d_Q_lose_6 rfl rfl ?_
  refine x_callPT (k' := 1) (n' := 6) (rest := [.int (nI 0), .ref ho]) hB (x_pfV (av := [.int (nI 0), .int (k), .int (z)]) (q0 := 0) hB w_529 xHd_code w_526 w_527 w_528 rfl rfl nm_X_lose rfl d_Q_lose_7) (c_X_lose0_p l E hT hx h0 h1 ht hw hz sp a0 n p k z hz9 hpk) w_529 xHd_code w_1 [0, 1] rfl rfl ⟨by decide, by decide⟩ ⟨by decide, by decide⟩ rfl rfl (Nat.le_of_ble_eq_true rfl) d_Q_lose_7 ?_
  refine x_catch1 hB w_343 ⟨by decide, by decide⟩ (by decide) (fun q_ => ?_)
  refine x_astore 17 hB d_Q_lose_15 rfl (by decide) (lv' := [(5, .ref q_), (0, .ref hx), (1, .int (nI 0)), (2, .int (k)), (3, .int (z)), (4, .ref ho)]) rfl ?_
  refine x_iconst (v := nI 1) 18 hB d_Q_lose_17 rfl (by decide) ?_
  exact x_iret hB (w' := [(hx, .inr (4, [.ref h0, .ref h1, .ref ht, .ref hw, .ref hz, .int (bI sp)])), (h0, .inr (0, [.ref a0, .int (nI (n)), .int (nI (p))])), (ho, .inl (E.2 2, 1, .inr (.inl (o))))]) hA [0, 1, 2] rfl rfl (xRet_i) (by decide) (by decide) d_Q_lose_18
abbrev rm_Q_bit0 : Room := { frames := 3, cells := 0, slots := 0, locals := 64 }
set_option maxHeartbeats 4000000 in
set_option maxRecDepth 100000 in
theorem c_Q_bit0 (l : Launch) (E : xE) (hx h0 h1 ht hw hz : Nat) (sp : Bool) (a0 n p : Nat) (f : Nat → Int32) (j : Nat) (hj : j < n) (hn : n ≤ 2640) (ho : Nat) (o : Nat → Int64) : xC l E y_Q_bit (.codeWith y_Q_bit method_10_code 5 (some .int) [(0, 10, 13, 13)]) rm_Q_bit0 [.ref hx, .int (nI 0), .int (nI (j)), .ref ho] [(hx, .inr (4, [.ref h0, .ref h1, .ref ht, .ref hw, .ref hz, .int (bI sp)])), (h0, .inr (0, [.ref a0, .int (nI (n)), .int (nI (p))])), (a0, .inl (E.2 0, 2640, .inl (f))), (ho, .inl (E.2 2, 1, .inr (.inl (o))))] (xRet (some (.int (nI 0))) [(hx, .inr (4, [.ref h0, .ref h1, .ref ht, .ref hw, .ref hz, .int (bI sp)])), (h0, .inr (0, [.ref a0, .int (nI (n)), .int (nI (p))])), (a0, .inl (E.2 0, 2640, .inl (f))), (ho, .inl (E.2 2, 1, .inr (.inl (vp_updL o 0 (((f) (j)).toInt64)))))]) := by
  refine x_ofH' (own := "LineCoderLaw") (mn := "bit") (lv := [(0, .ref hx), (1, .int (nI 0)), (2, .int (nI (j))), (3, .ref ho)]) (plainFor_of_name (by decide)) rfl rfl (Nat.le_of_ble_eq_true rfl) rfl ?_
  intro p_ e_ s_ m_ ar_ be_ me_ c_ A_ hA hB
  refine x_aload_n 1 hB d_Q_bit_0 rfl rfl ?_
  refine x_iconst (v := nI 0) 2 hB d_Q_bit_1 rfl (by decide) ?_
  refine x_aload_n 3 hB d_Q_bit_2 rfl rfl ?_
  refine x_iload_n 4 hB d_Q_bit_3 rfl rfl ?_
  refine x_iload_n 5 hB d_Q_bit_4 rfl rfl ?_
  refine x_callP (k' := 0) (n' := 0) (rest := [.int (nI 0), .ref ho]) (st' := [.int ((f) (j)), .int (nI 0), .ref ho]) 8 hB (x_pfV (av := [.int (nI 0), .int (nI (j))]) (q0 := 0) hB w_549 xHd_code w_546 w_547 w_548 rfl rfl nm_X_bit rfl d_Q_bit_5) (c_X_bit0 l E hx h0 h1 ht hw hz sp a0 n p f j hj hn) w_549 xHd_code w_1 [0, 1, 2] rfl rfl ⟨by decide, by decide⟩ ⟨by decide, by decide⟩ rfl rfl (Nat.le_of_ble_eq_true rfl) d_Q_bit_5 rfl rfl ?_
  refine x_i2l (v := ((f) (j)).toInt64) 9 hB d_Q_bit_8 rfl (rfl) ?_
  refine x_last 10 hB 3 (ws' := [(hx, .inr (4, [.ref h0, .ref h1, .ref ht, .ref hw, .ref hz, .int (bI sp)])), (h0, .inr (0, [.ref a0, .int (nI (n)), .int (nI (p))])), (a0, .inl (E.2 0, 2640, .inl (f))), (ho, .inl (E.2 2, 1, .inr (.inl (vp_updL o 0 (((f) (j)).toInt64)))))]) rfl (by omega) (by decide) (x' := ((f) (j)).toInt64) (rfl) rfl d_Q_bit_9 rfl ?_
  refine x_goto 17 hB d_Q_bit_10 (by decide) ?_
  refine x_iconst (v := nI 0) 18 hB d_Q_bit_17 rfl (by decide) ?_
  exact x_iret hB (w' := [(hx, .inr (4, [.ref h0, .ref h1, .ref ht, .ref hw, .ref hz, .int (bI sp)])), (h0, .inr (0, [.ref a0, .int (nI (n)), .int (nI (p))])), (a0, .inl (E.2 0, 2640, .inl (f))), (ho, .inl (E.2 2, 1, .inr (.inl (vp_updL o 0 (((f) (j)).toInt64)))))]) hA [0, 1, 2, 3] rfl rfl (xRet_i) (by decide) (by decide) d_Q_bit_18
abbrev rm_Q_bit0_o : Room := { frames := 3, cells := 0, slots := 0, locals := 64 }
set_option maxHeartbeats 4000000 in
set_option maxRecDepth 100000 in
theorem c_Q_bit0_o (l : Launch) (E : xE) (hx h0 h1 ht hw hz : Nat) (sp : Bool) (a0 n p : Nat) (f : Nat → Int32) (k : Int32) (hk : k < 0 ∨ nI n ≤ k) (ho : Nat) (o : Nat → Int64) : xC l E y_Q_bit (.codeWith y_Q_bit method_10_code 5 (some .int) [(0, 10, 13, 13)]) rm_Q_bit0_o [.ref hx, .int (nI 0), .int (k), .ref ho] [(hx, .inr (4, [.ref h0, .ref h1, .ref ht, .ref hw, .ref hz, .int (bI sp)])), (h0, .inr (0, [.ref a0, .int (nI (n)), .int (nI (p))])), (a0, .inl (E.2 0, 2640, .inl (f))), (ho, .inl (E.2 2, 1, .inr (.inl (o))))] (xRet (some (.int (nI 0))) [(hx, .inr (4, [.ref h0, .ref h1, .ref ht, .ref hw, .ref hz, .int (bI sp)])), (h0, .inr (0, [.ref a0, .int (nI (n)), .int (nI (p))])), (a0, .inl (E.2 0, 2640, .inl (f))), (ho, .inl (E.2 2, 1, .inr (.inl (vp_updL o 0 ((-1).toInt64)))))]) := by
  refine x_ofH' (own := "LineCoderLaw") (mn := "bit") (lv := [(0, .ref hx), (1, .int (nI 0)), (2, .int (k)), (3, .ref ho)]) (plainFor_of_name (by decide)) rfl rfl (Nat.le_of_ble_eq_true rfl) rfl ?_
  intro p_ e_ s_ m_ ar_ be_ me_ c_ A_ hA hB
  refine x_aload_n 1 hB d_Q_bit_0 rfl rfl ?_
  refine x_iconst (v := nI 0) 2 hB d_Q_bit_1 rfl (by decide) ?_
  refine x_aload_n 3 hB d_Q_bit_2 rfl rfl ?_
  refine x_iload_n 4 hB d_Q_bit_3 rfl rfl ?_
  refine x_iload_n 5 hB d_Q_bit_4 rfl rfl ?_
  refine x_callP (k' := 0) (n' := 0) (rest := [.int (nI 0), .ref ho]) (st' := [.int (-1), .int (nI 0), .ref ho]) 8 hB (x_pfV (av := [.int (nI 0), .int (k)]) (q0 := 0) hB w_549 xHd_code w_546 w_547 w_548 rfl rfl nm_X_bit rfl d_Q_bit_5) (c_X_bit0_o l E hx h0 h1 ht hw hz sp a0 n p f k hk) w_549 xHd_code w_1 [0, 1, 2] rfl rfl ⟨by decide, by decide⟩ ⟨by decide, by decide⟩ rfl rfl (Nat.le_of_ble_eq_true rfl) d_Q_bit_5 rfl rfl ?_
  refine x_i2l (v := (-1).toInt64) 9 hB d_Q_bit_8 rfl (rfl) ?_
  refine x_last 10 hB 3 (ws' := [(hx, .inr (4, [.ref h0, .ref h1, .ref ht, .ref hw, .ref hz, .int (bI sp)])), (h0, .inr (0, [.ref a0, .int (nI (n)), .int (nI (p))])), (a0, .inl (E.2 0, 2640, .inl (f))), (ho, .inl (E.2 2, 1, .inr (.inl (vp_updL o 0 ((-1).toInt64)))))]) rfl (by omega) (by decide) (x' := (-1).toInt64) (rfl) rfl d_Q_bit_9 rfl ?_
  refine x_goto 17 hB d_Q_bit_10 (by decide) ?_
  refine x_iconst (v := nI 0) 18 hB d_Q_bit_17 rfl (by decide) ?_
  exact x_iret hB (w' := [(hx, .inr (4, [.ref h0, .ref h1, .ref ht, .ref hw, .ref hz, .int (bI sp)])), (h0, .inr (0, [.ref a0, .int (nI (n)), .int (nI (p))])), (a0, .inl (E.2 0, 2640, .inl (f))), (ho, .inl (E.2 2, 1, .inr (.inl (vp_updL o 0 ((-1).toInt64)))))]) hA [0, 1, 2, 3] rfl rfl (xRet_i) (by decide) (by decide) d_Q_bit_18
abbrev rm_Q_count0_0 : Room := { frames := 2, cells := 0, slots := 0, locals := 45 }
set_option maxHeartbeats 4000000 in
set_option maxRecDepth 100000 in
theorem c_Q_count0_0 (l : Launch) (E : xE) (hx h0 h1 ht hw hz : Nat) (sp : Bool) (a0 n p : Nat) (f : Nat → Int32) (fo plus first : Bool) (sl bd wr mk rw : Nat) (hn : n ≤ 2640) (ho : Nat) (o : Nat → Int64) : xC l E y_Q_count (.codeWith y_Q_count method_11_code 5 (some .int) [(0, 10, 13, 13)]) rm_Q_count0_0 [.ref hx, .int (nI 0), .int (nI 0), .ref ho] [(hx, .inr (4, [.ref h0, .ref h1, .ref ht, .ref hw, .ref hz, .int (bI sp)])), (h0, .inr (0, [.ref a0, .int (nI (n)), .int (nI (p))])), (a0, .inl (E.2 0, 2640, .inl (f))), (ht, .inr (2, [.ref h0, .int (bI fo), .int (nI (sl)), .int (nI (bd)), .int (nI (wr)), .int (bI plus), .int (bI first), .int (nI (mk)), .int (nI (rw))])), (ho, .inl (E.2 2, 1, .inr (.inl (o))))] (xRet (some (.int (nI 0))) [(hx, .inr (4, [.ref h0, .ref h1, .ref ht, .ref hw, .ref hz, .int (bI sp)])), (h0, .inr (0, [.ref a0, .int (nI (n)), .int (nI (p))])), (a0, .inl (E.2 0, 2640, .inl (f))), (ht, .inr (2, [.ref h0, .int (bI fo), .int (nI (sl)), .int (nI (bd)), .int (nI (wr)), .int (bI plus), .int (bI first), .int (nI (mk)), .int (nI (rw))])), (ho, .inl (E.2 2, 1, .inr (.inl (vp_updL o 0 ((nI (n)).toInt64)))))]) := by
  refine x_ofH' (own := "LineCoderLaw") (mn := "count") (lv := [(0, .ref hx), (1, .int (nI 0)), (2, .int (nI 0)), (3, .ref ho)]) (plainFor_of_name (by decide)) rfl rfl (Nat.le_of_ble_eq_true rfl) rfl ?_
  intro p_ e_ s_ m_ ar_ be_ me_ c_ A_ hA hB
  refine x_aload_n 1 hB d_Q_count_0 rfl rfl ?_
  refine x_iconst (v := nI 0) 2 hB d_Q_count_1 rfl (by decide) ?_
  refine x_aload_n 3 hB d_Q_count_2 rfl rfl ?_
  refine x_iload_n 4 hB d_Q_count_3 rfl rfl ?_
  refine x_iload_n 5 hB d_Q_count_4 rfl rfl ?_
  refine x_callP (k' := 0) (n' := 0) (rest := [.int (nI 0), .ref ho]) (st' := [.int (nI (n)), .int (nI 0), .ref ho]) 8 hB (x_pfV (av := [.int (nI 0), .int (nI 0)]) (q0 := 0) hB w_556 xHd_code w_553 w_554 w_555 rfl rfl nm_X_count rfl d_Q_count_5) (c_X_count0_0 l E hx h0 h1 ht hw hz sp a0 n p f fo plus first sl bd wr mk rw hn) w_556 xHd_code w_1 [0, 1, 2, 3] rfl rfl ⟨by decide, by decide⟩ ⟨by decide, by decide⟩ rfl rfl (Nat.le_of_ble_eq_true rfl) d_Q_count_5 rfl rfl ?_
  refine x_i2l (v := (nI (n)).toInt64) 9 hB d_Q_count_8 rfl (rfl) ?_
  refine x_last 10 hB 4 (ws' := [(hx, .inr (4, [.ref h0, .ref h1, .ref ht, .ref hw, .ref hz, .int (bI sp)])), (h0, .inr (0, [.ref a0, .int (nI (n)), .int (nI (p))])), (a0, .inl (E.2 0, 2640, .inl (f))), (ht, .inr (2, [.ref h0, .int (bI fo), .int (nI (sl)), .int (nI (bd)), .int (nI (wr)), .int (bI plus), .int (bI first), .int (nI (mk)), .int (nI (rw))])), (ho, .inl (E.2 2, 1, .inr (.inl (vp_updL o 0 ((nI (n)).toInt64)))))]) rfl (by omega) (by decide) (x' := (nI (n)).toInt64) (rfl) rfl d_Q_count_9 rfl ?_
  refine x_goto 17 hB d_Q_count_10 (by decide) ?_
  refine x_iconst (v := nI 0) 18 hB d_Q_count_17 rfl (by decide) ?_
  exact x_iret hB (w' := [(hx, .inr (4, [.ref h0, .ref h1, .ref ht, .ref hw, .ref hz, .int (bI sp)])), (h0, .inr (0, [.ref a0, .int (nI (n)), .int (nI (p))])), (a0, .inl (E.2 0, 2640, .inl (f))), (ht, .inr (2, [.ref h0, .int (bI fo), .int (nI (sl)), .int (nI (bd)), .int (nI (wr)), .int (bI plus), .int (bI first), .int (nI (mk)), .int (nI (rw))])), (ho, .inl (E.2 2, 1, .inr (.inl (vp_updL o 0 ((nI (n)).toInt64)))))]) hA [0, 1, 2, 3, 4] rfl rfl (xRet_i) (by decide) (by decide) d_Q_count_18
abbrev rm_Q_count0_1 : Room := { frames := 2, cells := 0, slots := 0, locals := 45 }
set_option maxHeartbeats 4000000 in
set_option maxRecDepth 100000 in
theorem c_Q_count0_1 (l : Launch) (E : xE) (hx h0 h1 ht hw hz : Nat) (sp : Bool) (a0 n p : Nat) (f : Nat → Int32) (fo plus first : Bool) (sl bd wr mk rw : Nat) (hn : n ≤ 2640) (ho : Nat) (o : Nat → Int64) : xC l E y_Q_count (.codeWith y_Q_count method_11_code 5 (some .int) [(0, 10, 13, 13)]) rm_Q_count0_1 [.ref hx, .int (nI 0), .int (nI 1), .ref ho] [(hx, .inr (4, [.ref h0, .ref h1, .ref ht, .ref hw, .ref hz, .int (bI sp)])), (h0, .inr (0, [.ref a0, .int (nI (n)), .int (nI (p))])), (a0, .inl (E.2 0, 2640, .inl (f))), (ht, .inr (2, [.ref h0, .int (bI fo), .int (nI (sl)), .int (nI (bd)), .int (nI (wr)), .int (bI plus), .int (bI first), .int (nI (mk)), .int (nI (rw))])), (ho, .inl (E.2 2, 1, .inr (.inl (o))))] (xRet (some (.int (nI 0))) [(hx, .inr (4, [.ref h0, .ref h1, .ref ht, .ref hw, .ref hz, .int (bI sp)])), (h0, .inr (0, [.ref a0, .int (nI (n)), .int (nI (p))])), (a0, .inl (E.2 0, 2640, .inl (f))), (ht, .inr (2, [.ref h0, .int (bI fo), .int (nI (sl)), .int (nI (bd)), .int (nI (wr)), .int (bI plus), .int (bI first), .int (nI (mk)), .int (nI (rw))])), (ho, .inl (E.2 2, 1, .inr (.inl (vp_updL o 0 ((nI (p)).toInt64)))))]) := by
  refine x_ofH' (own := "LineCoderLaw") (mn := "count") (lv := [(0, .ref hx), (1, .int (nI 0)), (2, .int (nI 1)), (3, .ref ho)]) (plainFor_of_name (by decide)) rfl rfl (Nat.le_of_ble_eq_true rfl) rfl ?_
  intro p_ e_ s_ m_ ar_ be_ me_ c_ A_ hA hB
  refine x_aload_n 1 hB d_Q_count_0 rfl rfl ?_
  refine x_iconst (v := nI 0) 2 hB d_Q_count_1 rfl (by decide) ?_
  refine x_aload_n 3 hB d_Q_count_2 rfl rfl ?_
  refine x_iload_n 4 hB d_Q_count_3 rfl rfl ?_
  refine x_iload_n 5 hB d_Q_count_4 rfl rfl ?_
  refine x_callP (k' := 0) (n' := 0) (rest := [.int (nI 0), .ref ho]) (st' := [.int (nI (p)), .int (nI 0), .ref ho]) 8 hB (x_pfV (av := [.int (nI 0), .int (nI 1)]) (q0 := 0) hB w_556 xHd_code w_553 w_554 w_555 rfl rfl nm_X_count rfl d_Q_count_5) (c_X_count0_1 l E hx h0 h1 ht hw hz sp a0 n p f fo plus first sl bd wr mk rw hn) w_556 xHd_code w_1 [0, 1, 2, 3] rfl rfl ⟨by decide, by decide⟩ ⟨by decide, by decide⟩ rfl rfl (Nat.le_of_ble_eq_true rfl) d_Q_count_5 rfl rfl ?_
  refine x_i2l (v := (nI (p)).toInt64) 9 hB d_Q_count_8 rfl (rfl) ?_
  refine x_last 10 hB 4 (ws' := [(hx, .inr (4, [.ref h0, .ref h1, .ref ht, .ref hw, .ref hz, .int (bI sp)])), (h0, .inr (0, [.ref a0, .int (nI (n)), .int (nI (p))])), (a0, .inl (E.2 0, 2640, .inl (f))), (ht, .inr (2, [.ref h0, .int (bI fo), .int (nI (sl)), .int (nI (bd)), .int (nI (wr)), .int (bI plus), .int (bI first), .int (nI (mk)), .int (nI (rw))])), (ho, .inl (E.2 2, 1, .inr (.inl (vp_updL o 0 ((nI (p)).toInt64)))))]) rfl (by omega) (by decide) (x' := (nI (p)).toInt64) (rfl) rfl d_Q_count_9 rfl ?_
  refine x_goto 17 hB d_Q_count_10 (by decide) ?_
  refine x_iconst (v := nI 0) 18 hB d_Q_count_17 rfl (by decide) ?_
  exact x_iret hB (w' := [(hx, .inr (4, [.ref h0, .ref h1, .ref ht, .ref hw, .ref hz, .int (bI sp)])), (h0, .inr (0, [.ref a0, .int (nI (n)), .int (nI (p))])), (a0, .inl (E.2 0, 2640, .inl (f))), (ht, .inr (2, [.ref h0, .int (bI fo), .int (nI (sl)), .int (nI (bd)), .int (nI (wr)), .int (bI plus), .int (bI first), .int (nI (mk)), .int (nI (rw))])), (ho, .inl (E.2 2, 1, .inr (.inl (vp_updL o 0 ((nI (p)).toInt64)))))]) hA [0, 1, 2, 3, 4] rfl rfl (xRet_i) (by decide) (by decide) d_Q_count_18
abbrev rm_Q_count0_2 : Room := { frames := 2, cells := 0, slots := 0, locals := 45 }
set_option maxHeartbeats 4000000 in
set_option maxRecDepth 100000 in
theorem c_Q_count0_2 (l : Launch) (E : xE) (hx h0 h1 ht hw hz : Nat) (sp : Bool) (a0 n p : Nat) (f : Nat → Int32) (fo plus first : Bool) (sl bd wr mk rw : Nat) (hn : n ≤ 2640) (ho : Nat) (o : Nat → Int64) : xC l E y_Q_count (.codeWith y_Q_count method_11_code 5 (some .int) [(0, 10, 13, 13)]) rm_Q_count0_2 [.ref hx, .int (nI 0), .int (nI 2), .ref ho] [(hx, .inr (4, [.ref h0, .ref h1, .ref ht, .ref hw, .ref hz, .int (bI sp)])), (h0, .inr (0, [.ref a0, .int (nI (n)), .int (nI (p))])), (a0, .inl (E.2 0, 2640, .inl (f))), (ht, .inr (2, [.ref h0, .int (bI fo), .int (nI (sl)), .int (nI (bd)), .int (nI (wr)), .int (bI plus), .int (bI first), .int (nI (mk)), .int (nI (rw))])), (ho, .inl (E.2 2, 1, .inr (.inl (o))))] (xRet (some (.int (nI 0))) [(hx, .inr (4, [.ref h0, .ref h1, .ref ht, .ref hw, .ref hz, .int (bI sp)])), (h0, .inr (0, [.ref a0, .int (nI (n)), .int (nI (p))])), (a0, .inl (E.2 0, 2640, .inl (f))), (ht, .inr (2, [.ref h0, .int (bI fo), .int (nI (sl)), .int (nI (bd)), .int (nI (wr)), .int (bI plus), .int (bI first), .int (nI (mk)), .int (nI (rw))])), (ho, .inl (E.2 2, 1, .inr (.inl (vp_updL o 0 ((bI fo).toInt64)))))]) := by
  refine x_ofH' (own := "LineCoderLaw") (mn := "count") (lv := [(0, .ref hx), (1, .int (nI 0)), (2, .int (nI 2)), (3, .ref ho)]) (plainFor_of_name (by decide)) rfl rfl (Nat.le_of_ble_eq_true rfl) rfl ?_
  intro p_ e_ s_ m_ ar_ be_ me_ c_ A_ hA hB
  refine x_aload_n 1 hB d_Q_count_0 rfl rfl ?_
  refine x_iconst (v := nI 0) 2 hB d_Q_count_1 rfl (by decide) ?_
  refine x_aload_n 3 hB d_Q_count_2 rfl rfl ?_
  refine x_iload_n 4 hB d_Q_count_3 rfl rfl ?_
  refine x_iload_n 5 hB d_Q_count_4 rfl rfl ?_
  refine x_callP (k' := 0) (n' := 0) (rest := [.int (nI 0), .ref ho]) (st' := [.int (bI fo), .int (nI 0), .ref ho]) 8 hB (x_pfV (av := [.int (nI 0), .int (nI 2)]) (q0 := 0) hB w_556 xHd_code w_553 w_554 w_555 rfl rfl nm_X_count rfl d_Q_count_5) (c_X_count0_2 l E hx h0 h1 ht hw hz sp a0 n p f fo plus first sl bd wr mk rw hn) w_556 xHd_code w_1 [0, 1, 2, 3] rfl rfl ⟨by decide, by decide⟩ ⟨by decide, by decide⟩ rfl rfl (Nat.le_of_ble_eq_true rfl) d_Q_count_5 rfl rfl ?_
  refine x_i2l (v := (bI fo).toInt64) 9 hB d_Q_count_8 rfl (rfl) ?_
  refine x_last 10 hB 4 (ws' := [(hx, .inr (4, [.ref h0, .ref h1, .ref ht, .ref hw, .ref hz, .int (bI sp)])), (h0, .inr (0, [.ref a0, .int (nI (n)), .int (nI (p))])), (a0, .inl (E.2 0, 2640, .inl (f))), (ht, .inr (2, [.ref h0, .int (bI fo), .int (nI (sl)), .int (nI (bd)), .int (nI (wr)), .int (bI plus), .int (bI first), .int (nI (mk)), .int (nI (rw))])), (ho, .inl (E.2 2, 1, .inr (.inl (vp_updL o 0 ((bI fo).toInt64)))))]) rfl (by omega) (by decide) (x' := (bI fo).toInt64) (rfl) rfl d_Q_count_9 rfl ?_
  refine x_goto 17 hB d_Q_count_10 (by decide) ?_
  refine x_iconst (v := nI 0) 18 hB d_Q_count_17 rfl (by decide) ?_
  exact x_iret hB (w' := [(hx, .inr (4, [.ref h0, .ref h1, .ref ht, .ref hw, .ref hz, .int (bI sp)])), (h0, .inr (0, [.ref a0, .int (nI (n)), .int (nI (p))])), (a0, .inl (E.2 0, 2640, .inl (f))), (ht, .inr (2, [.ref h0, .int (bI fo), .int (nI (sl)), .int (nI (bd)), .int (nI (wr)), .int (bI plus), .int (bI first), .int (nI (mk)), .int (nI (rw))])), (ho, .inl (E.2 2, 1, .inr (.inl (vp_updL o 0 ((bI fo).toInt64)))))]) hA [0, 1, 2, 3, 4] rfl rfl (xRet_i) (by decide) (by decide) d_Q_count_18
abbrev rm_Q_count0_3 : Room := { frames := 2, cells := 0, slots := 0, locals := 45 }
set_option maxHeartbeats 4000000 in
set_option maxRecDepth 100000 in
theorem c_Q_count0_3 (l : Launch) (E : xE) (hx h0 h1 ht hw hz : Nat) (sp : Bool) (a0 n p : Nat) (f : Nat → Int32) (fo plus first : Bool) (sl bd wr mk rw : Nat) (hn : n ≤ 2640) (ho : Nat) (o : Nat → Int64) : xC l E y_Q_count (.codeWith y_Q_count method_11_code 5 (some .int) [(0, 10, 13, 13)]) rm_Q_count0_3 [.ref hx, .int (nI 0), .int (nI 3), .ref ho] [(hx, .inr (4, [.ref h0, .ref h1, .ref ht, .ref hw, .ref hz, .int (bI sp)])), (h0, .inr (0, [.ref a0, .int (nI (n)), .int (nI (p))])), (a0, .inl (E.2 0, 2640, .inl (f))), (ht, .inr (2, [.ref h0, .int (bI fo), .int (nI (sl)), .int (nI (bd)), .int (nI (wr)), .int (bI plus), .int (bI first), .int (nI (mk)), .int (nI (rw))])), (ho, .inl (E.2 2, 1, .inr (.inl (o))))] (xRet (some (.int (nI 0))) [(hx, .inr (4, [.ref h0, .ref h1, .ref ht, .ref hw, .ref hz, .int (bI sp)])), (h0, .inr (0, [.ref a0, .int (nI (n)), .int (nI (p))])), (a0, .inl (E.2 0, 2640, .inl (f))), (ht, .inr (2, [.ref h0, .int (bI fo), .int (nI (sl)), .int (nI (bd)), .int (nI (wr)), .int (bI plus), .int (bI first), .int (nI (mk)), .int (nI (rw))])), (ho, .inl (E.2 2, 1, .inr (.inl (vp_updL o 0 ((nI (mk)).toInt64)))))]) := by
  refine x_ofH' (own := "LineCoderLaw") (mn := "count") (lv := [(0, .ref hx), (1, .int (nI 0)), (2, .int (nI 3)), (3, .ref ho)]) (plainFor_of_name (by decide)) rfl rfl (Nat.le_of_ble_eq_true rfl) rfl ?_
  intro p_ e_ s_ m_ ar_ be_ me_ c_ A_ hA hB
  refine x_aload_n 1 hB d_Q_count_0 rfl rfl ?_
  refine x_iconst (v := nI 0) 2 hB d_Q_count_1 rfl (by decide) ?_
  refine x_aload_n 3 hB d_Q_count_2 rfl rfl ?_
  refine x_iload_n 4 hB d_Q_count_3 rfl rfl ?_
  refine x_iload_n 5 hB d_Q_count_4 rfl rfl ?_
  refine x_callP (k' := 0) (n' := 0) (rest := [.int (nI 0), .ref ho]) (st' := [.int (nI (mk)), .int (nI 0), .ref ho]) 8 hB (x_pfV (av := [.int (nI 0), .int (nI 3)]) (q0 := 0) hB w_556 xHd_code w_553 w_554 w_555 rfl rfl nm_X_count rfl d_Q_count_5) (c_X_count0_3 l E hx h0 h1 ht hw hz sp a0 n p f fo plus first sl bd wr mk rw hn) w_556 xHd_code w_1 [0, 1, 2, 3] rfl rfl ⟨by decide, by decide⟩ ⟨by decide, by decide⟩ rfl rfl (Nat.le_of_ble_eq_true rfl) d_Q_count_5 rfl rfl ?_
  refine x_i2l (v := (nI (mk)).toInt64) 9 hB d_Q_count_8 rfl (rfl) ?_
  refine x_last 10 hB 4 (ws' := [(hx, .inr (4, [.ref h0, .ref h1, .ref ht, .ref hw, .ref hz, .int (bI sp)])), (h0, .inr (0, [.ref a0, .int (nI (n)), .int (nI (p))])), (a0, .inl (E.2 0, 2640, .inl (f))), (ht, .inr (2, [.ref h0, .int (bI fo), .int (nI (sl)), .int (nI (bd)), .int (nI (wr)), .int (bI plus), .int (bI first), .int (nI (mk)), .int (nI (rw))])), (ho, .inl (E.2 2, 1, .inr (.inl (vp_updL o 0 ((nI (mk)).toInt64)))))]) rfl (by omega) (by decide) (x' := (nI (mk)).toInt64) (rfl) rfl d_Q_count_9 rfl ?_
  refine x_goto 17 hB d_Q_count_10 (by decide) ?_
  refine x_iconst (v := nI 0) 18 hB d_Q_count_17 rfl (by decide) ?_
  exact x_iret hB (w' := [(hx, .inr (4, [.ref h0, .ref h1, .ref ht, .ref hw, .ref hz, .int (bI sp)])), (h0, .inr (0, [.ref a0, .int (nI (n)), .int (nI (p))])), (a0, .inl (E.2 0, 2640, .inl (f))), (ht, .inr (2, [.ref h0, .int (bI fo), .int (nI (sl)), .int (nI (bd)), .int (nI (wr)), .int (bI plus), .int (bI first), .int (nI (mk)), .int (nI (rw))])), (ho, .inl (E.2 2, 1, .inr (.inl (vp_updL o 0 ((nI (mk)).toInt64)))))]) hA [0, 1, 2, 3, 4] rfl rfl (xRet_i) (by decide) (by decide) d_Q_count_18
abbrev rm_Q_count0_4 : Room := { frames := 2, cells := 0, slots := 0, locals := 45 }
set_option maxHeartbeats 4000000 in
set_option maxRecDepth 100000 in
theorem c_Q_count0_4 (l : Launch) (E : xE) (hx h0 h1 ht hw hz : Nat) (sp : Bool) (a0 n p : Nat) (f : Nat → Int32) (fo plus first : Bool) (sl bd wr mk rw : Nat) (hn : n ≤ 2640) (ho : Nat) (o : Nat → Int64) : xC l E y_Q_count (.codeWith y_Q_count method_11_code 5 (some .int) [(0, 10, 13, 13)]) rm_Q_count0_4 [.ref hx, .int (nI 0), .int (nI 4), .ref ho] [(hx, .inr (4, [.ref h0, .ref h1, .ref ht, .ref hw, .ref hz, .int (bI sp)])), (h0, .inr (0, [.ref a0, .int (nI (n)), .int (nI (p))])), (a0, .inl (E.2 0, 2640, .inl (f))), (ht, .inr (2, [.ref h0, .int (bI fo), .int (nI (sl)), .int (nI (bd)), .int (nI (wr)), .int (bI plus), .int (bI first), .int (nI (mk)), .int (nI (rw))])), (ho, .inl (E.2 2, 1, .inr (.inl (o))))] (xRet (some (.int (nI 0))) [(hx, .inr (4, [.ref h0, .ref h1, .ref ht, .ref hw, .ref hz, .int (bI sp)])), (h0, .inr (0, [.ref a0, .int (nI (n)), .int (nI (p))])), (a0, .inl (E.2 0, 2640, .inl (f))), (ht, .inr (2, [.ref h0, .int (bI fo), .int (nI (sl)), .int (nI (bd)), .int (nI (wr)), .int (bI plus), .int (bI first), .int (nI (mk)), .int (nI (rw))])), (ho, .inl (E.2 2, 1, .inr (.inl (vp_updL o 0 ((nI (sl)).toInt64)))))]) := by
  refine x_ofH' (own := "LineCoderLaw") (mn := "count") (lv := [(0, .ref hx), (1, .int (nI 0)), (2, .int (nI 4)), (3, .ref ho)]) (plainFor_of_name (by decide)) rfl rfl (Nat.le_of_ble_eq_true rfl) rfl ?_
  intro p_ e_ s_ m_ ar_ be_ me_ c_ A_ hA hB
  refine x_aload_n 1 hB d_Q_count_0 rfl rfl ?_
  refine x_iconst (v := nI 0) 2 hB d_Q_count_1 rfl (by decide) ?_
  refine x_aload_n 3 hB d_Q_count_2 rfl rfl ?_
  refine x_iload_n 4 hB d_Q_count_3 rfl rfl ?_
  refine x_iload_n 5 hB d_Q_count_4 rfl rfl ?_
  refine x_callP (k' := 0) (n' := 0) (rest := [.int (nI 0), .ref ho]) (st' := [.int (nI (sl)), .int (nI 0), .ref ho]) 8 hB (x_pfV (av := [.int (nI 0), .int (nI 4)]) (q0 := 0) hB w_556 xHd_code w_553 w_554 w_555 rfl rfl nm_X_count rfl d_Q_count_5) (c_X_count0_4 l E hx h0 h1 ht hw hz sp a0 n p f fo plus first sl bd wr mk rw hn) w_556 xHd_code w_1 [0, 1, 2, 3] rfl rfl ⟨by decide, by decide⟩ ⟨by decide, by decide⟩ rfl rfl (Nat.le_of_ble_eq_true rfl) d_Q_count_5 rfl rfl ?_
  refine x_i2l (v := (nI (sl)).toInt64) 9 hB d_Q_count_8 rfl (rfl) ?_
  refine x_last 10 hB 4 (ws' := [(hx, .inr (4, [.ref h0, .ref h1, .ref ht, .ref hw, .ref hz, .int (bI sp)])), (h0, .inr (0, [.ref a0, .int (nI (n)), .int (nI (p))])), (a0, .inl (E.2 0, 2640, .inl (f))), (ht, .inr (2, [.ref h0, .int (bI fo), .int (nI (sl)), .int (nI (bd)), .int (nI (wr)), .int (bI plus), .int (bI first), .int (nI (mk)), .int (nI (rw))])), (ho, .inl (E.2 2, 1, .inr (.inl (vp_updL o 0 ((nI (sl)).toInt64)))))]) rfl (by omega) (by decide) (x' := (nI (sl)).toInt64) (rfl) rfl d_Q_count_9 rfl ?_
  refine x_goto 17 hB d_Q_count_10 (by decide) ?_
  refine x_iconst (v := nI 0) 18 hB d_Q_count_17 rfl (by decide) ?_
  exact x_iret hB (w' := [(hx, .inr (4, [.ref h0, .ref h1, .ref ht, .ref hw, .ref hz, .int (bI sp)])), (h0, .inr (0, [.ref a0, .int (nI (n)), .int (nI (p))])), (a0, .inl (E.2 0, 2640, .inl (f))), (ht, .inr (2, [.ref h0, .int (bI fo), .int (nI (sl)), .int (nI (bd)), .int (nI (wr)), .int (bI plus), .int (bI first), .int (nI (mk)), .int (nI (rw))])), (ho, .inl (E.2 2, 1, .inr (.inl (vp_updL o 0 ((nI (sl)).toInt64)))))]) hA [0, 1, 2, 3, 4] rfl rfl (xRet_i) (by decide) (by decide) d_Q_count_18
abbrev rm_Q_count0_5 : Room := { frames := 2, cells := 0, slots := 0, locals := 45 }
set_option maxHeartbeats 4000000 in
set_option maxRecDepth 100000 in
theorem c_Q_count0_5 (l : Launch) (E : xE) (hx h0 h1 ht hw hz : Nat) (sp : Bool) (a0 n p : Nat) (f : Nat → Int32) (fo plus first : Bool) (sl bd wr mk rw : Nat) (hn : n ≤ 2640) (ho : Nat) (o : Nat → Int64) : xC l E y_Q_count (.codeWith y_Q_count method_11_code 5 (some .int) [(0, 10, 13, 13)]) rm_Q_count0_5 [.ref hx, .int (nI 0), .int (nI 5), .ref ho] [(hx, .inr (4, [.ref h0, .ref h1, .ref ht, .ref hw, .ref hz, .int (bI sp)])), (h0, .inr (0, [.ref a0, .int (nI (n)), .int (nI (p))])), (a0, .inl (E.2 0, 2640, .inl (f))), (ht, .inr (2, [.ref h0, .int (bI fo), .int (nI (sl)), .int (nI (bd)), .int (nI (wr)), .int (bI plus), .int (bI first), .int (nI (mk)), .int (nI (rw))])), (ho, .inl (E.2 2, 1, .inr (.inl (o))))] (xRet (some (.int (nI 0))) [(hx, .inr (4, [.ref h0, .ref h1, .ref ht, .ref hw, .ref hz, .int (bI sp)])), (h0, .inr (0, [.ref a0, .int (nI (n)), .int (nI (p))])), (a0, .inl (E.2 0, 2640, .inl (f))), (ht, .inr (2, [.ref h0, .int (bI fo), .int (nI (sl)), .int (nI (bd)), .int (nI (wr)), .int (bI plus), .int (bI first), .int (nI (mk)), .int (nI (rw))])), (ho, .inl (E.2 2, 1, .inr (.inl (vp_updL o 0 ((nI (bd)).toInt64)))))]) := by
  refine x_ofH' (own := "LineCoderLaw") (mn := "count") (lv := [(0, .ref hx), (1, .int (nI 0)), (2, .int (nI 5)), (3, .ref ho)]) (plainFor_of_name (by decide)) rfl rfl (Nat.le_of_ble_eq_true rfl) rfl ?_
  intro p_ e_ s_ m_ ar_ be_ me_ c_ A_ hA hB
  refine x_aload_n 1 hB d_Q_count_0 rfl rfl ?_
  refine x_iconst (v := nI 0) 2 hB d_Q_count_1 rfl (by decide) ?_
  refine x_aload_n 3 hB d_Q_count_2 rfl rfl ?_
  refine x_iload_n 4 hB d_Q_count_3 rfl rfl ?_
  refine x_iload_n 5 hB d_Q_count_4 rfl rfl ?_
  refine x_callP (k' := 0) (n' := 0) (rest := [.int (nI 0), .ref ho]) (st' := [.int (nI (bd)), .int (nI 0), .ref ho]) 8 hB (x_pfV (av := [.int (nI 0), .int (nI 5)]) (q0 := 0) hB w_556 xHd_code w_553 w_554 w_555 rfl rfl nm_X_count rfl d_Q_count_5) (c_X_count0_5 l E hx h0 h1 ht hw hz sp a0 n p f fo plus first sl bd wr mk rw hn) w_556 xHd_code w_1 [0, 1, 2, 3] rfl rfl ⟨by decide, by decide⟩ ⟨by decide, by decide⟩ rfl rfl (Nat.le_of_ble_eq_true rfl) d_Q_count_5 rfl rfl ?_
  refine x_i2l (v := (nI (bd)).toInt64) 9 hB d_Q_count_8 rfl (rfl) ?_
  refine x_last 10 hB 4 (ws' := [(hx, .inr (4, [.ref h0, .ref h1, .ref ht, .ref hw, .ref hz, .int (bI sp)])), (h0, .inr (0, [.ref a0, .int (nI (n)), .int (nI (p))])), (a0, .inl (E.2 0, 2640, .inl (f))), (ht, .inr (2, [.ref h0, .int (bI fo), .int (nI (sl)), .int (nI (bd)), .int (nI (wr)), .int (bI plus), .int (bI first), .int (nI (mk)), .int (nI (rw))])), (ho, .inl (E.2 2, 1, .inr (.inl (vp_updL o 0 ((nI (bd)).toInt64)))))]) rfl (by omega) (by decide) (x' := (nI (bd)).toInt64) (rfl) rfl d_Q_count_9 rfl ?_
  refine x_goto 17 hB d_Q_count_10 (by decide) ?_
  refine x_iconst (v := nI 0) 18 hB d_Q_count_17 rfl (by decide) ?_
  exact x_iret hB (w' := [(hx, .inr (4, [.ref h0, .ref h1, .ref ht, .ref hw, .ref hz, .int (bI sp)])), (h0, .inr (0, [.ref a0, .int (nI (n)), .int (nI (p))])), (a0, .inl (E.2 0, 2640, .inl (f))), (ht, .inr (2, [.ref h0, .int (bI fo), .int (nI (sl)), .int (nI (bd)), .int (nI (wr)), .int (bI plus), .int (bI first), .int (nI (mk)), .int (nI (rw))])), (ho, .inl (E.2 2, 1, .inr (.inl (vp_updL o 0 ((nI (bd)).toInt64)))))]) hA [0, 1, 2, 3, 4] rfl rfl (xRet_i) (by decide) (by decide) d_Q_count_18
abbrev rm_Q_count0_6 : Room := { frames := 2, cells := 0, slots := 0, locals := 45 }
set_option maxHeartbeats 4000000 in
set_option maxRecDepth 100000 in
theorem c_Q_count0_6 (l : Launch) (E : xE) (hx h0 h1 ht hw hz : Nat) (sp : Bool) (a0 n p : Nat) (f : Nat → Int32) (fo plus first : Bool) (sl bd wr mk rw : Nat) (hn : n ≤ 2640) (ho : Nat) (o : Nat → Int64) : xC l E y_Q_count (.codeWith y_Q_count method_11_code 5 (some .int) [(0, 10, 13, 13)]) rm_Q_count0_6 [.ref hx, .int (nI 0), .int (nI 6), .ref ho] [(hx, .inr (4, [.ref h0, .ref h1, .ref ht, .ref hw, .ref hz, .int (bI sp)])), (h0, .inr (0, [.ref a0, .int (nI (n)), .int (nI (p))])), (a0, .inl (E.2 0, 2640, .inl (f))), (ht, .inr (2, [.ref h0, .int (bI fo), .int (nI (sl)), .int (nI (bd)), .int (nI (wr)), .int (bI plus), .int (bI first), .int (nI (mk)), .int (nI (rw))])), (ho, .inl (E.2 2, 1, .inr (.inl (o))))] (xRet (some (.int (nI 0))) [(hx, .inr (4, [.ref h0, .ref h1, .ref ht, .ref hw, .ref hz, .int (bI sp)])), (h0, .inr (0, [.ref a0, .int (nI (n)), .int (nI (p))])), (a0, .inl (E.2 0, 2640, .inl (f))), (ht, .inr (2, [.ref h0, .int (bI fo), .int (nI (sl)), .int (nI (bd)), .int (nI (wr)), .int (bI plus), .int (bI first), .int (nI (mk)), .int (nI (rw))])), (ho, .inl (E.2 2, 1, .inr (.inl (vp_updL o 0 ((nI (wr)).toInt64)))))]) := by
  refine x_ofH' (own := "LineCoderLaw") (mn := "count") (lv := [(0, .ref hx), (1, .int (nI 0)), (2, .int (nI 6)), (3, .ref ho)]) (plainFor_of_name (by decide)) rfl rfl (Nat.le_of_ble_eq_true rfl) rfl ?_
  intro p_ e_ s_ m_ ar_ be_ me_ c_ A_ hA hB
  refine x_aload_n 1 hB d_Q_count_0 rfl rfl ?_
  refine x_iconst (v := nI 0) 2 hB d_Q_count_1 rfl (by decide) ?_
  refine x_aload_n 3 hB d_Q_count_2 rfl rfl ?_
  refine x_iload_n 4 hB d_Q_count_3 rfl rfl ?_
  refine x_iload_n 5 hB d_Q_count_4 rfl rfl ?_
  refine x_callP (k' := 0) (n' := 0) (rest := [.int (nI 0), .ref ho]) (st' := [.int (nI (wr)), .int (nI 0), .ref ho]) 8 hB (x_pfV (av := [.int (nI 0), .int (nI 6)]) (q0 := 0) hB w_556 xHd_code w_553 w_554 w_555 rfl rfl nm_X_count rfl d_Q_count_5) (c_X_count0_6 l E hx h0 h1 ht hw hz sp a0 n p f fo plus first sl bd wr mk rw hn) w_556 xHd_code w_1 [0, 1, 2, 3] rfl rfl ⟨by decide, by decide⟩ ⟨by decide, by decide⟩ rfl rfl (Nat.le_of_ble_eq_true rfl) d_Q_count_5 rfl rfl ?_
  refine x_i2l (v := (nI (wr)).toInt64) 9 hB d_Q_count_8 rfl (rfl) ?_
  refine x_last 10 hB 4 (ws' := [(hx, .inr (4, [.ref h0, .ref h1, .ref ht, .ref hw, .ref hz, .int (bI sp)])), (h0, .inr (0, [.ref a0, .int (nI (n)), .int (nI (p))])), (a0, .inl (E.2 0, 2640, .inl (f))), (ht, .inr (2, [.ref h0, .int (bI fo), .int (nI (sl)), .int (nI (bd)), .int (nI (wr)), .int (bI plus), .int (bI first), .int (nI (mk)), .int (nI (rw))])), (ho, .inl (E.2 2, 1, .inr (.inl (vp_updL o 0 ((nI (wr)).toInt64)))))]) rfl (by omega) (by decide) (x' := (nI (wr)).toInt64) (rfl) rfl d_Q_count_9 rfl ?_
  refine x_goto 17 hB d_Q_count_10 (by decide) ?_
  refine x_iconst (v := nI 0) 18 hB d_Q_count_17 rfl (by decide) ?_
  exact x_iret hB (w' := [(hx, .inr (4, [.ref h0, .ref h1, .ref ht, .ref hw, .ref hz, .int (bI sp)])), (h0, .inr (0, [.ref a0, .int (nI (n)), .int (nI (p))])), (a0, .inl (E.2 0, 2640, .inl (f))), (ht, .inr (2, [.ref h0, .int (bI fo), .int (nI (sl)), .int (nI (bd)), .int (nI (wr)), .int (bI plus), .int (bI first), .int (nI (mk)), .int (nI (rw))])), (ho, .inl (E.2 2, 1, .inr (.inl (vp_updL o 0 ((nI (wr)).toInt64)))))]) hA [0, 1, 2, 3, 4] rfl rfl (xRet_i) (by decide) (by decide) d_Q_count_18
abbrev rm_Q_count0_7 : Room := { frames := 2, cells := 0, slots := 0, locals := 46 }
set_option maxHeartbeats 4000000 in
set_option maxRecDepth 100000 in
theorem c_Q_count0_7 (l : Launch) (E : xE) (hx h0 h1 ht hw hz : Nat) (sp : Bool) (a0 n p : Nat) (f : Nat → Int32) (fo plus first : Bool) (sl bd wr mk rw : Nat) (hn : n ≤ 2640) (ho : Nat) (o : Nat → Int64) : xC l E y_Q_count (.codeWith y_Q_count method_11_code 5 (some .int) [(0, 10, 13, 13)]) rm_Q_count0_7 [.ref hx, .int (nI 0), .int (nI 7), .ref ho] [(hx, .inr (4, [.ref h0, .ref h1, .ref ht, .ref hw, .ref hz, .int (bI sp)])), (h0, .inr (0, [.ref a0, .int (nI (n)), .int (nI (p))])), (a0, .inl (E.2 0, 2640, .inl (f))), (ht, .inr (2, [.ref h0, .int (bI fo), .int (nI (sl)), .int (nI (bd)), .int (nI (wr)), .int (bI plus), .int (bI first), .int (nI (mk)), .int (nI (rw))])), (ho, .inl (E.2 2, 1, .inr (.inl (o))))] (xRet (some (.int (nI 0))) [(hx, .inr (4, [.ref h0, .ref h1, .ref ht, .ref hw, .ref hz, .int (bI sp)])), (h0, .inr (0, [.ref a0, .int (nI (n)), .int (nI (p))])), (a0, .inl (E.2 0, 2640, .inl (f))), (ht, .inr (2, [.ref h0, .int (bI fo), .int (nI (sl)), .int (nI (bd)), .int (nI (wr)), .int (bI plus), .int (bI first), .int (nI (mk)), .int (nI (rw))])), (ho, .inl (E.2 2, 1, .inr (.inl (vp_updL o 0 ((olF f n).toInt64)))))]) := by
  refine x_ofH' (own := "LineCoderLaw") (mn := "count") (lv := [(0, .ref hx), (1, .int (nI 0)), (2, .int (nI 7)), (3, .ref ho)]) (plainFor_of_name (by decide)) rfl rfl (Nat.le_of_ble_eq_true rfl) rfl ?_
  intro p_ e_ s_ m_ ar_ be_ me_ c_ A_ hA hB
  refine x_aload_n 1 hB d_Q_count_0 rfl rfl ?_
  refine x_iconst (v := nI 0) 2 hB d_Q_count_1 rfl (by decide) ?_
  refine x_aload_n 3 hB d_Q_count_2 rfl rfl ?_
  refine x_iload_n 4 hB d_Q_count_3 rfl rfl ?_
  refine x_iload_n 5 hB d_Q_count_4 rfl rfl ?_
  refine x_callP (k' := 0) (n' := 0) (rest := [.int (nI 0), .ref ho]) (st' := [.int (olF f n), .int (nI 0), .ref ho]) 8 hB (x_pfV (av := [.int (nI 0), .int (nI 7)]) (q0 := 0) hB w_556 xHd_code w_553 w_554 w_555 rfl rfl nm_X_count rfl d_Q_count_5) (c_X_count0_7 l E hx h0 h1 ht hw hz sp a0 n p f fo plus first sl bd wr mk rw hn) w_556 xHd_code w_1 [0, 1, 2, 3] rfl rfl ⟨by decide, by decide⟩ ⟨by decide, by decide⟩ rfl rfl (Nat.le_of_ble_eq_true rfl) d_Q_count_5 rfl rfl ?_
  refine x_i2l (v := (olF f n).toInt64) 9 hB d_Q_count_8 rfl (rfl) ?_
  refine x_last 10 hB 4 (ws' := [(hx, .inr (4, [.ref h0, .ref h1, .ref ht, .ref hw, .ref hz, .int (bI sp)])), (h0, .inr (0, [.ref a0, .int (nI (n)), .int (nI (p))])), (a0, .inl (E.2 0, 2640, .inl (f))), (ht, .inr (2, [.ref h0, .int (bI fo), .int (nI (sl)), .int (nI (bd)), .int (nI (wr)), .int (bI plus), .int (bI first), .int (nI (mk)), .int (nI (rw))])), (ho, .inl (E.2 2, 1, .inr (.inl (vp_updL o 0 ((olF f n).toInt64)))))]) rfl (by omega) (by decide) (x' := (olF f n).toInt64) (rfl) rfl d_Q_count_9 rfl ?_
  refine x_goto 17 hB d_Q_count_10 (by decide) ?_
  refine x_iconst (v := nI 0) 18 hB d_Q_count_17 rfl (by decide) ?_
  exact x_iret hB (w' := [(hx, .inr (4, [.ref h0, .ref h1, .ref ht, .ref hw, .ref hz, .int (bI sp)])), (h0, .inr (0, [.ref a0, .int (nI (n)), .int (nI (p))])), (a0, .inl (E.2 0, 2640, .inl (f))), (ht, .inr (2, [.ref h0, .int (bI fo), .int (nI (sl)), .int (nI (bd)), .int (nI (wr)), .int (bI plus), .int (bI first), .int (nI (mk)), .int (nI (rw))])), (ho, .inl (E.2 2, 1, .inr (.inl (vp_updL o 0 ((olF f n).toInt64)))))]) hA [0, 1, 2, 3, 4] rfl rfl (xRet_i) (by decide) (by decide) d_Q_count_18
abbrev rm_Q_count0_8 : Room := { frames := 3, cells := 0, slots := 0, locals := 68 }
set_option maxHeartbeats 4000000 in
set_option maxRecDepth 100000 in
theorem c_Q_count0_8 (l : Launch) (E : xE) (hx h0 h1 ht hw hz : Nat) (sp : Bool) (a0 n p : Nat) (f : Nat → Int32) (fo plus first : Bool) (sl bd wr mk rw : Nat) (hn : n ≤ 2640) (ho : Nat) (o : Nat → Int64) : xC l E y_Q_count (.codeWith y_Q_count method_11_code 5 (some .int) [(0, 10, 13, 13)]) rm_Q_count0_8 [.ref hx, .int (nI 0), .int (nI 8), .ref ho] [(hx, .inr (4, [.ref h0, .ref h1, .ref ht, .ref hw, .ref hz, .int (bI sp)])), (h0, .inr (0, [.ref a0, .int (nI (n)), .int (nI (p))])), (a0, .inl (E.2 0, 2640, .inl (f))), (ht, .inr (2, [.ref h0, .int (bI fo), .int (nI (sl)), .int (nI (bd)), .int (nI (wr)), .int (bI plus), .int (bI first), .int (nI (mk)), .int (nI (rw))])), (ho, .inl (E.2 2, 1, .inr (.inl (o))))] (xRet (some (.int (nI 0))) [(hx, .inr (4, [.ref h0, .ref h1, .ref ht, .ref hw, .ref hz, .int (bI sp)])), (h0, .inr (0, [.ref a0, .int (nI (n)), .int (nI (p))])), (a0, .inl (E.2 0, 2640, .inl (f))), (ht, .inr (2, [.ref h0, .int (bI fo), .int (nI (sl)), .int (nI (bd)), .int (nI (wr)), .int (bI plus), .int (bI first), .int (nI (mk)), .int (nI (rw))])), (ho, .inl (E.2 2, 1, .inr (.inl (vp_updL o 0 ((nI ((lrF f n).2)).toInt64)))))]) := by
  refine x_ofH' (own := "LineCoderLaw") (mn := "count") (lv := [(0, .ref hx), (1, .int (nI 0)), (2, .int (nI 8)), (3, .ref ho)]) (plainFor_of_name (by decide)) rfl rfl (Nat.le_of_ble_eq_true rfl) rfl ?_
  intro p_ e_ s_ m_ ar_ be_ me_ c_ A_ hA hB
  refine x_aload_n 1 hB d_Q_count_0 rfl rfl ?_
  refine x_iconst (v := nI 0) 2 hB d_Q_count_1 rfl (by decide) ?_
  refine x_aload_n 3 hB d_Q_count_2 rfl rfl ?_
  refine x_iload_n 4 hB d_Q_count_3 rfl rfl ?_
  refine x_iload_n 5 hB d_Q_count_4 rfl rfl ?_
  refine x_callP (k' := 0) (n' := 0) (rest := [.int (nI 0), .ref ho]) (st' := [.int (nI ((lrF f n).2)), .int (nI 0), .ref ho]) 8 hB (x_pfV (av := [.int (nI 0), .int (nI 8)]) (q0 := 0) hB w_556 xHd_code w_553 w_554 w_555 rfl rfl nm_X_count rfl d_Q_count_5) (c_X_count0_8 l E hx h0 h1 ht hw hz sp a0 n p f fo plus first sl bd wr mk rw hn) w_556 xHd_code w_1 [0, 1, 2, 3] rfl rfl ⟨by decide, by decide⟩ ⟨by decide, by decide⟩ rfl rfl (Nat.le_of_ble_eq_true rfl) d_Q_count_5 rfl rfl ?_
  refine x_i2l (v := (nI ((lrF f n).2)).toInt64) 9 hB d_Q_count_8 rfl (rfl) ?_
  refine x_last 10 hB 4 (ws' := [(hx, .inr (4, [.ref h0, .ref h1, .ref ht, .ref hw, .ref hz, .int (bI sp)])), (h0, .inr (0, [.ref a0, .int (nI (n)), .int (nI (p))])), (a0, .inl (E.2 0, 2640, .inl (f))), (ht, .inr (2, [.ref h0, .int (bI fo), .int (nI (sl)), .int (nI (bd)), .int (nI (wr)), .int (bI plus), .int (bI first), .int (nI (mk)), .int (nI (rw))])), (ho, .inl (E.2 2, 1, .inr (.inl (vp_updL o 0 ((nI ((lrF f n).2)).toInt64)))))]) rfl (by omega) (by decide) (x' := (nI ((lrF f n).2)).toInt64) (rfl) rfl d_Q_count_9 rfl ?_
  refine x_goto 17 hB d_Q_count_10 (by decide) ?_
  refine x_iconst (v := nI 0) 18 hB d_Q_count_17 rfl (by decide) ?_
  exact x_iret hB (w' := [(hx, .inr (4, [.ref h0, .ref h1, .ref ht, .ref hw, .ref hz, .int (bI sp)])), (h0, .inr (0, [.ref a0, .int (nI (n)), .int (nI (p))])), (a0, .inl (E.2 0, 2640, .inl (f))), (ht, .inr (2, [.ref h0, .int (bI fo), .int (nI (sl)), .int (nI (bd)), .int (nI (wr)), .int (bI plus), .int (bI first), .int (nI (mk)), .int (nI (rw))])), (ho, .inl (E.2 2, 1, .inr (.inl (vp_updL o 0 ((nI ((lrF f n).2)).toInt64)))))]) hA [0, 1, 2, 3, 4] rfl rfl (xRet_i) (by decide) (by decide) d_Q_count_18
abbrev rm_Q_count0_b : Room := { frames := 7, cells := 1, slots := 6, locals := 107 }
set_option maxHeartbeats 4000000 in
set_option maxRecDepth 100000 in
theorem c_Q_count0_b (l : Launch) (E : xE) (hx h0 h1 ht hw hz : Nat) (sp : Bool) (hT : xNoTr l) (k : Int32) (hk : k < 0 ∨ nI 8 < k) (ho : Nat) (o : Nat → Int64) : xC l E y_Q_count (.codeWith y_Q_count method_11_code 5 (some .int) [(0, 10, 13, 13)]) rm_Q_count0_b [.ref hx, .int (nI 0), .int (k), .ref ho] [(hx, .inr (4, [.ref h0, .ref h1, .ref ht, .ref hw, .ref hz, .int (bI sp)])), (ho, .inl (E.2 2, 1, .inr (.inl (o))))] (xRet (some (.int (nI 1))) [(hx, .inr (4, [.ref h0, .ref h1, .ref ht, .ref hw, .ref hz, .int (bI sp)])), (ho, .inl (E.2 2, 1, .inr (.inl (o))))]) := by
  refine x_ofH' (own := "LineCoderLaw") (mn := "count") (lv := [(0, .ref hx), (1, .int (nI 0)), (2, .int (k)), (3, .ref ho)]) (plainFor_of_name (by decide)) rfl rfl (Nat.le_of_ble_eq_true rfl) rfl ?_
  intro p_ e_ s_ m_ ar_ be_ me_ c_ A_ hA hB
  refine x_aload_n 1 hB d_Q_count_0 rfl rfl ?_
  refine x_iconst (v := nI 0) 2 hB d_Q_count_1 rfl (by decide) ?_
  refine x_aload_n 3 hB d_Q_count_2 rfl rfl ?_
  refine x_iload_n 4 hB d_Q_count_3 rfl rfl ?_
  refine x_iload_n 5 hB d_Q_count_4 rfl rfl ?_
  refine x_callPT (k' := 1) (n' := 6) (rest := [.int (nI 0), .ref ho]) hB (x_pfV (av := [.int (nI 0), .int (k)]) (q0 := 0) hB w_556 xHd_code w_553 w_554 w_555 rfl rfl nm_X_count rfl d_Q_count_5) (c_X_count0_b l E hT hx h0 h1 ht hw hz sp k hk) w_556 xHd_code w_1 [0] rfl rfl ⟨by decide, by decide⟩ ⟨by decide, by decide⟩ rfl rfl (Nat.le_of_ble_eq_true rfl) d_Q_count_5 ?_
  refine x_catch1 hB w_343 ⟨by decide, by decide⟩ (by decide) (fun q_ => ?_)
  refine x_astore 15 hB d_Q_count_13 rfl (by decide) (lv' := [(4, .ref q_), (0, .ref hx), (1, .int (nI 0)), (2, .int (k)), (3, .ref ho)]) rfl ?_
  refine x_iconst (v := nI 1) 16 hB d_Q_count_15 rfl (by decide) ?_
  exact x_iret hB (w' := [(hx, .inr (4, [.ref h0, .ref h1, .ref ht, .ref hw, .ref hz, .int (bI sp)])), (ho, .inl (E.2 2, 1, .inr (.inl (o))))]) hA [0, 1] rfl rfl (xRet_i) (by decide) (by decide) d_Q_count_16
abbrev rm_Q_raw1 : Room := { frames := 3, cells := 0, slots := 0, locals := 66 }
set_option maxHeartbeats 4000000 in
set_option maxRecDepth 100000 in
theorem c_Q_raw1 (l : Launch) (E : xE) (hx h0 h1 ht hw hz : Nat) (sp : Bool) (a0 n p : Nat) (f : Nat → Int32) (x : Int32) (q : Nat) (hq : q ≤ 32) (hr : n + q ≤ 2640) (ho : Nat) (o : Nat → Int64) : xC l E y_Q_raw (.codeWith y_Q_raw method_7_code 6 (some .int) [(0, 12, 15, 13), (0, 12, 19, 22)]) rm_Q_raw1 [.ref hx, .int (nI 1), .int (x), .int (nI (q)), .ref ho] [(hx, .inr (4, [.ref h0, .ref h1, .ref ht, .ref hw, .ref hz, .int (bI sp)])), (h1, .inr (0, [.ref a0, .int (nI (n)), .int (nI (p))])), (a0, .inl (E.2 0, 2640, .inl (f))), (ho, .inl (E.2 2, 1, .inr (.inl (o))))] (xRet (some (.int (nI 0))) [(hx, .inr (4, [.ref h0, .ref h1, .ref ht, .ref hw, .ref hz, .int (bI sp)])), (h1, .inr (0, [.ref a0, .int (nI (n + q)), .int (nI (p))])), (a0, .inl (E.2 0, 2640, .inl (apF f n x q q))), (ho, .inl (E.2 2, 1, .inr (.inl (vp_updL o 0 ((nI (n + q)).toInt64)))))]) := by
  refine x_ofH' (own := "LineCoderLaw") (mn := "raw") (lv := [(0, .ref hx), (1, .int (nI 1)), (2, .int (x)), (3, .int (nI (q))), (4, .ref ho)]) (plainFor_of_name (by decide)) rfl rfl (Nat.le_of_ble_eq_true rfl) rfl ?_
  intro p_ e_ s_ m_ ar_ be_ me_ c_ A_ hA hB
  refine x_aload 2 hB d_Q_raw_0 rfl rfl ?_
  refine x_iconst (v := nI 0) 3 hB d_Q_raw_2 rfl (by decide) ?_
  refine x_aload_n 4 hB d_Q_raw_3 rfl rfl ?_
  refine x_iload_n 5 hB d_Q_raw_4 rfl rfl ?_
  refine x_iload_n 6 hB d_Q_raw_5 rfl rfl ?_
  refine x_iload_n 7 hB d_Q_raw_6 rfl rfl ?_
  refine x_callD (k' := 0) (n' := 0) (rest := [.int (nI 0), .ref ho]) (wr := [(ho, .inl (E.2 2, 1, .inr (.inl (o))))]) (ws' := [(ho, .inl (E.2 2, 1, .inr (.inl (o)))), (hx, .inr (4, [.ref h0, .ref h1, .ref ht, .ref hw, .ref hz, .int (bI sp)])), (h1, .inr (0, [.ref a0, .int (nI (n + q)), .int (nI (p))])), (a0, .inl (E.2 0, 2640, .inl (apF f n x q q)))]) (st' := [.int (nI (n + q)), .int (nI 0), .ref ho]) 10 hB (x_pfV (av := [.int (nI 1), .int (x), .int (nI (q))]) (q0 := 0) hB w_486 xHd_code w_483 w_484 w_485 rfl rfl nm_X_raw rfl d_Q_raw_7) (c_X_raw1 l E hx h0 h1 ht hw hz sp a0 n p f x q hq hr) w_486 xHd_code w_1 [0, 1, 2] [3] rfl rfl rfl rfl (by decide) ⟨by decide, by decide⟩ ⟨by decide, by decide⟩ rfl rfl (Nat.le_of_ble_eq_true rfl) d_Q_raw_7 rfl rfl rfl ?_
  refine x_i2l (v := (nI (n + q)).toInt64) 11 hB d_Q_raw_10 rfl (rfl) ?_
  refine x_last 12 hB 0 (ws' := [(ho, .inl (E.2 2, 1, .inr (.inl (vp_updL o 0 ((nI (n + q)).toInt64))))), (hx, .inr (4, [.ref h0, .ref h1, .ref ht, .ref hw, .ref hz, .int (bI sp)])), (h1, .inr (0, [.ref a0, .int (nI (n + q)), .int (nI (p))])), (a0, .inl (E.2 0, 2640, .inl (apF f n x q q)))]) rfl (by omega) (by decide) (x' := (nI (n + q)).toInt64) (rfl) rfl d_Q_raw_11 rfl ?_
  refine x_goto 23 hB d_Q_raw_12 (by decide) ?_
  refine x_iconst (v := nI 0) 24 hB d_Q_raw_23 rfl (by decide) ?_
  exact x_iret hB (w' := [(hx, .inr (4, [.ref h0, .ref h1, .ref ht, .ref hw, .ref hz, .int (bI sp)])), (h1, .inr (0, [.ref a0, .int (nI (n + q)), .int (nI (p))])), (a0, .inl (E.2 0, 2640, .inl (apF f n x q q))), (ho, .inl (E.2 2, 1, .inr (.inl (vp_updL o 0 ((nI (n + q)).toInt64)))))]) hA [1, 2, 3, 0] rfl rfl (xRet_i) (by decide) (by decide) d_Q_raw_24
abbrev rm_Q_raw1_m : Room := { frames := 7, cells := 1, slots := 6, locals := 107 }
set_option maxHeartbeats 4000000 in
set_option maxRecDepth 100000 in
theorem c_Q_raw1_m (l : Launch) (E : xE) (hx h0 h1 ht hw hz : Nat) (sp : Bool) (hT : xNoTr l) (x z : Int32) (hz9 : z < 0 ∨ nI 32 < z) (ho : Nat) (o : Nat → Int64) : xC l E y_Q_raw (.codeWith y_Q_raw method_7_code 6 (some .int) [(0, 12, 15, 13), (0, 12, 19, 22)]) rm_Q_raw1_m [.ref hx, .int (nI 1), .int (x), .int (z), .ref ho] [(hx, .inr (4, [.ref h0, .ref h1, .ref ht, .ref hw, .ref hz, .int (bI sp)])), (ho, .inl (E.2 2, 1, .inr (.inl (o))))] (xRet (some (.int (nI 1))) [(hx, .inr (4, [.ref h0, .ref h1, .ref ht, .ref hw, .ref hz, .int (bI sp)])), (ho, .inl (E.2 2, 1, .inr (.inl (o))))]) := by
  refine x_ofH' (own := "LineCoderLaw") (mn := "raw") (lv := [(0, .ref hx), (1, .int (nI 1)), (2, .int (x)), (3, .int (z)), (4, .ref ho)]) (plainFor_of_name (by decide)) rfl rfl (Nat.le_of_ble_eq_true rfl) rfl ?_
  intro p_ e_ s_ m_ ar_ be_ me_ c_ A_ hA hB
  refine x_aload 2 hB d_Q_raw_0 rfl rfl ?_
  refine x_iconst (v := nI 0) 3 hB d_Q_raw_2 rfl (by decide) ?_
  refine x_aload_n 4 hB d_Q_raw_3 rfl rfl ?_
  refine x_iload_n 5 hB d_Q_raw_4 rfl rfl ?_
  refine x_iload_n 6 hB d_Q_raw_5 rfl rfl ?_
  refine x_iload_n 7 hB d_Q_raw_6 rfl rfl ?_
  refine x_callPT (k' := 1) (n' := 6) (rest := [.int (nI 0), .ref ho]) hB (x_pfV (av := [.int (nI 1), .int (x), .int (z)]) (q0 := 0) hB w_486 xHd_code w_483 w_484 w_485 rfl rfl nm_X_raw rfl d_Q_raw_7) (c_X_raw1_m l E hT hx h0 h1 ht hw hz sp x z hz9) w_486 xHd_code w_1 [0] rfl rfl ⟨by decide, by decide⟩ ⟨by decide, by decide⟩ rfl rfl (Nat.le_of_ble_eq_true rfl) d_Q_raw_7 ?_
  refine x_catch1 hB w_343 ⟨by decide, by decide⟩ (by decide) (fun q_ => ?_)
  refine x_astore 17 hB d_Q_raw_15 rfl (by decide) (lv' := [(5, .ref q_), (0, .ref hx), (1, .int (nI 1)), (2, .int (x)), (3, .int (z)), (4, .ref ho)]) rfl ?_
  refine x_iconst (v := nI 1) 18 hB d_Q_raw_17 rfl (by decide) ?_
  exact x_iret hB (w' := [(hx, .inr (4, [.ref h0, .ref h1, .ref ht, .ref hw, .ref hz, .int (bI sp)])), (ho, .inl (E.2 2, 1, .inr (.inl (o))))]) hA [0, 1] rfl rfl (xRet_i) (by decide) (by decide) d_Q_raw_18
abbrev rm_Q_raw1_f : Room := { frames := 8, cells := 1, slots := 6, locals := 128 }
set_option maxHeartbeats 4000000 in
set_option maxRecDepth 100000 in
theorem c_Q_raw1_f (l : Launch) (E : xE) (hx h0 h1 ht hw hz : Nat) (sp : Bool) (hT : xNoTr l) (a0 n p : Nat) (x : Int32) (q : Nat) (hq : q ≤ 32) (hn : n ≤ 2640) (hr : 2640 < n + q) (ho : Nat) (o : Nat → Int64) : xC l E y_Q_raw (.codeWith y_Q_raw method_7_code 6 (some .int) [(0, 12, 15, 13), (0, 12, 19, 22)]) rm_Q_raw1_f [.ref hx, .int (nI 1), .int (x), .int (nI (q)), .ref ho] [(hx, .inr (4, [.ref h0, .ref h1, .ref ht, .ref hw, .ref hz, .int (bI sp)])), (h1, .inr (0, [.ref a0, .int (nI (n)), .int (nI (p))])), (ho, .inl (E.2 2, 1, .inr (.inl (o))))] (xRet (some (.int (nI 2))) [(hx, .inr (4, [.ref h0, .ref h1, .ref ht, .ref hw, .ref hz, .int (bI sp)])), (h1, .inr (0, [.ref a0, .int (nI (n)), .int (nI (p))])), (ho, .inl (E.2 2, 1, .inr (.inl (o))))]) := by
  refine x_ofH' (own := "LineCoderLaw") (mn := "raw") (lv := [(0, .ref hx), (1, .int (nI 1)), (2, .int (x)), (3, .int (nI (q))), (4, .ref ho)]) (plainFor_of_name (by decide)) rfl rfl (Nat.le_of_ble_eq_true rfl) rfl ?_
  intro p_ e_ s_ m_ ar_ be_ me_ c_ A_ hA hB
  refine x_aload 2 hB d_Q_raw_0 rfl rfl ?_
  refine x_iconst (v := nI 0) 3 hB d_Q_raw_2 rfl (by decide) ?_
  refine x_aload_n 4 hB d_Q_raw_3 rfl rfl ?_
  refine x_iload_n 5 hB d_Q_raw_4 rfl rfl ?_
  refine x_iload_n 6 hB d_Q_raw_5 rfl rfl ?_
  refine x_iload_n 7 hB d_Q_raw_6 rfl rfl ?_
  refine x_callPT (k' := 1) (n' := 6) (rest := [.int (nI 0), .ref ho]) hB (x_pfV (av := [.int (nI 1), .int (x), .int (nI (q))]) (q0 := 0) hB w_486 xHd_code w_483 w_484 w_485 rfl rfl nm_X_raw rfl d_Q_raw_7) (c_X_raw1_f l E hT hx h0 h1 ht hw hz sp a0 n p x q hq hn hr) w_486 xHd_code w_1 [0, 1] rfl rfl ⟨by decide, by decide⟩ ⟨by decide, by decide⟩ rfl rfl (Nat.le_of_ble_eq_true rfl) d_Q_raw_7 ?_
  refine x_catch2 hB w_343 w_432 hB.qz.1.2.1 ⟨by decide, by decide⟩ (by decide) ⟨by decide, by decide⟩ (by decide) (fun q_ => ?_)
  refine x_astore 21 hB d_Q_raw_19 rfl (by decide) (lv' := [(5, .ref q_), (0, .ref hx), (1, .int (nI 1)), (2, .int (x)), (3, .int (nI (q))), (4, .ref ho)]) rfl ?_
  refine x_iconst (v := nI 2) 22 hB d_Q_raw_21 rfl (by decide) ?_
  exact x_iret hB (w' := [(hx, .inr (4, [.ref h0, .ref h1, .ref ht, .ref hw, .ref hz, .int (bI sp)])), (h1, .inr (0, [.ref a0, .int (nI (n)), .int (nI (p))])), (ho, .inl (E.2 2, 1, .inr (.inl (o))))]) hA [0, 1, 2] rfl rfl (xRet_i) (by decide) (by decide) d_Q_raw_22
abbrev rm_Q_bend1 : Room := { frames := 3, cells := 0, slots := 0, locals := 65 }
set_option maxHeartbeats 4000000 in
set_option maxRecDepth 100000 in
theorem c_Q_bend1 (l : Launch) (E : xE) (hx h0 h1 ht hw hz : Nat) (sp : Bool) (a0 n p : Nat) (f : Nat → Int32) (j : Nat) (hj : j < n) (hn : n ≤ 2640) (hb : f j = 0 ∨ f j = 1) (ho : Nat) (o : Nat → Int64) : xC l E y_Q_bend (.codeWith y_Q_bend method_8_code 5 (some .int) [(0, 17, 20, 13), (0, 17, 24, 36)]) rm_Q_bend1 [.ref hx, .int (nI 1), .int (nI (j)), .ref ho] [(hx, .inr (4, [.ref h0, .ref h1, .ref ht, .ref hw, .ref hz, .int (bI sp)])), (h1, .inr (0, [.ref a0, .int (nI (n)), .int (nI (p))])), (a0, .inl (E.2 0, 2640, .inl (f))), (ho, .inl (E.2 2, 1, .inr (.inl (o))))] (xRet (some (.int (nI 0))) [(hx, .inr (4, [.ref h0, .ref h1, .ref ht, .ref hw, .ref hz, .int (bI sp)])), (h1, .inr (0, [.ref a0, .int (nI (n)), .int (nI (p))])), (a0, .inl (E.2 0, 2640, .inl (upd f j (1 - f j)))), (ho, .inl (E.2 2, 1, .inr (.inl (vp_updL o 0 (bL (decide (f j = 0)))))))]) := by
  refine x_ofH' (own := "LineCoderLaw") (mn := "bend") (lv := [(0, .ref hx), (1, .int (nI 1)), (2, .int (nI (j))), (3, .ref ho)]) (plainFor_of_name (by decide)) rfl rfl (Nat.le_of_ble_eq_true rfl) rfl ?_
  intro p_ e_ s_ m_ ar_ be_ me_ c_ A_ hA hB
  refine x_aload_n 1 hB d_Q_bend_0 rfl rfl ?_
  refine x_iconst (v := nI 0) 2 hB d_Q_bend_1 rfl (by decide) ?_
  refine x_aload_n 3 hB d_Q_bend_2 rfl rfl ?_
  refine x_iload_n 4 hB d_Q_bend_3 rfl rfl ?_
  refine x_iload_n 5 hB d_Q_bend_4 rfl rfl ?_
  refine x_callD (k' := 0) (n' := 0) (rest := [.int (nI 0), .ref ho]) (wr := [(ho, .inl (E.2 2, 1, .inr (.inl (o))))]) (ws' := [(ho, .inl (E.2 2, 1, .inr (.inl (o)))), (hx, .inr (4, [.ref h0, .ref h1, .ref ht, .ref hw, .ref hz, .int (bI sp)])), (h1, .inr (0, [.ref a0, .int (nI (n)), .int (nI (p))])), (a0, .inl (E.2 0, 2640, .inl (upd f j (1 - f j))))]) (st' := [.int (bI (decide (f j = 0))), .int (nI 0), .ref ho]) 8 hB (x_pfV (av := [.int (nI 1), .int (nI (j))]) (q0 := 0) hB w_500 xHd_code w_497 w_498 w_499 rfl rfl nm_X_bend rfl d_Q_bend_5) (c_X_bend1 l E hx h0 h1 ht hw hz sp a0 n p f j hj hn hb) w_500 xHd_code w_1 [0, 1, 2] [3] rfl rfl rfl rfl (by decide) ⟨by decide, by decide⟩ ⟨by decide, by decide⟩ rfl rfl (Nat.le_of_ble_eq_true rfl) d_Q_bend_5 rfl rfl rfl ?_
  refine x_join 16 (fun _u : Unit => True) (fun _u : Unit => [(ho, .inl (E.2 2, 1, .inr (.inl (o)))), (hx, .inr (4, [.ref h0, .ref h1, .ref ht, .ref hw, .ref hz, .int (bI sp)])), (h1, .inr (0, [.ref a0, .int (nI (n)), .int (nI (p))])), (a0, .inl (E.2 0, 2640, .inl (upd f j (1 - f j))))]) (fun _u : Unit => [(0, .ref hx), (1, .int (nI 1)), (2, .int (nI (j))), (3, .ref ho)]) (fun _u : Unit => [.long (bL (decide (f j = 0))), .int (nI 0), .ref ho]) (fun _u hJ16 => ?_) (fun J16 => ?_)
  · skip
    refine x_last 17 hB 0 (ws' := [(ho, .inl (E.2 2, 1, .inr (.inl (vp_updL o 0 (bL (decide (f j = 0))))))), (hx, .inr (4, [.ref h0, .ref h1, .ref ht, .ref hw, .ref hz, .int (bI sp)])), (h1, .inr (0, [.ref a0, .int (nI (n)), .int (nI (p))])), (a0, .inl (E.2 0, 2640, .inl (upd f j (1 - f j))))]) rfl (by omega) (by decide) (x' := bL (decide (f j = 0))) (rfl) rfl d_Q_bend_16 rfl ?_
    refine x_goto 28 hB d_Q_bend_17 (by decide) ?_
    refine x_iconst (v := nI 0) 29 hB d_Q_bend_28 rfl (by decide) ?_
    exact x_iret hB (w' := [(hx, .inr (4, [.ref h0, .ref h1, .ref ht, .ref hw, .ref hz, .int (bI sp)])), (h1, .inr (0, [.ref a0, .int (nI (n)), .int (nI (p))])), (a0, .inl (E.2 0, 2640, .inl (upd f j (1 - f j)))), (ho, .inl (E.2 2, 1, .inr (.inl (vp_updL o 0 (bL (decide (f j = 0)))))))]) hA [1, 2, 3, 0] rfl rfl (xRet_i) (by decide) (by decide) d_Q_bend_29
  refine x_if_eq 15 11 hB d_Q_bend_8 (by decide) rfl (fun h8 => ?_) (fun h8 => ?_)
  · skip
    have k8 : (decide (f j = 0)) = false := bI_0 h8
    refine x_lconst (v := 0) 16 hB d_Q_bend_15 rfl (by decide) ?_
    refine x_top (v' := .long (bL (decide (f j = 0)))) (congrArg Value.long (by rw [k8]; rfl)) ?_
    exact J16 () trivial
  · skip
    have k8 : (decide (f j = 0)) = true := bI_1 h8
    refine x_lconst (v := 1) 12 hB d_Q_bend_11 rfl (by decide) ?_
    refine x_top (v' := .long (bL (decide (f j = 0)))) (congrArg Value.long (by rw [k8]; rfl)) ?_
    refine x_goto 16 hB d_Q_bend_12 (by decide) ?_
    exact J16 () trivial
abbrev rm_Q_bend1_o : Room := { frames := 7, cells := 1, slots := 6, locals := 106 }
set_option maxHeartbeats 4000000 in
set_option maxRecDepth 100000 in
theorem c_Q_bend1_o (l : Launch) (E : xE) (hx h0 h1 ht hw hz : Nat) (sp : Bool) (hT : xNoTr l) (a0 n p : Nat) (k : Int32) (hk : k < 0 ∨ nI n ≤ k) (ho : Nat) (o : Nat → Int64) : xC l E y_Q_bend (.codeWith y_Q_bend method_8_code 5 (some .int) [(0, 17, 20, 13), (0, 17, 24, 36)]) rm_Q_bend1_o [.ref hx, .int (nI 1), .int (k), .ref ho] [(hx, .inr (4, [.ref h0, .ref h1, .ref ht, .ref hw, .ref hz, .int (bI sp)])), (h1, .inr (0, [.ref a0, .int (nI (n)), .int (nI (p))])), (ho, .inl (E.2 2, 1, .inr (.inl (o))))] (xRet (some (.int (nI 2))) [(hx, .inr (4, [.ref h0, .ref h1, .ref ht, .ref hw, .ref hz, .int (bI sp)])), (h1, .inr (0, [.ref a0, .int (nI (n)), .int (nI (p))])), (ho, .inl (E.2 2, 1, .inr (.inl (o))))]) := by
  refine x_ofH' (own := "LineCoderLaw") (mn := "bend") (lv := [(0, .ref hx), (1, .int (nI 1)), (2, .int (k)), (3, .ref ho)]) (plainFor_of_name (by decide)) rfl rfl (Nat.le_of_ble_eq_true rfl) rfl ?_
  intro p_ e_ s_ m_ ar_ be_ me_ c_ A_ hA hB
  refine x_aload_n 1 hB d_Q_bend_0 rfl rfl ?_
  refine x_iconst (v := nI 0) 2 hB d_Q_bend_1 rfl (by decide) ?_
  refine x_aload_n 3 hB d_Q_bend_2 rfl rfl ?_
  refine x_iload_n 4 hB d_Q_bend_3 rfl rfl ?_
  refine x_iload_n 5 hB d_Q_bend_4 rfl rfl ?_
  refine x_callPT (k' := 1) (n' := 6) (rest := [.int (nI 0), .ref ho]) hB (x_pfV (av := [.int (nI 1), .int (k)]) (q0 := 0) hB w_500 xHd_code w_497 w_498 w_499 rfl rfl nm_X_bend rfl d_Q_bend_5) (c_X_bend1_o l E hT hx h0 h1 ht hw hz sp a0 n p k hk) w_500 xHd_code w_1 [0, 1] rfl rfl ⟨by decide, by decide⟩ ⟨by decide, by decide⟩ rfl rfl (Nat.le_of_ble_eq_true rfl) d_Q_bend_5 ?_
  refine x_catch2 hB w_343 w_496 hB.qz.1.2.2 ⟨by decide, by decide⟩ (by decide) ⟨by decide, by decide⟩ (by decide) (fun q_ => ?_)
  refine x_astore 26 hB d_Q_bend_24 rfl (by decide) (lv' := [(4, .ref q_), (0, .ref hx), (1, .int (nI 1)), (2, .int (k)), (3, .ref ho)]) rfl ?_
  refine x_iconst (v := nI 2) 27 hB d_Q_bend_26 rfl (by decide) ?_
  exact x_iret hB (w' := [(hx, .inr (4, [.ref h0, .ref h1, .ref ht, .ref hw, .ref hz, .int (bI sp)])), (h1, .inr (0, [.ref a0, .int (nI (n)), .int (nI (p))])), (ho, .inl (E.2 2, 1, .inr (.inl (o))))]) hA [0, 1, 2] rfl rfl (xRet_i) (by decide) (by decide) d_Q_bend_27
abbrev rm_Q_lose1 : Room := { frames := 3, cells := 0, slots := 0, locals := 108 }
set_option maxHeartbeats 4000000 in
set_option maxRecDepth 100000 in
theorem c_Q_lose1 (l : Launch) (E : xE) (hx h0 h1 ht hw hz : Nat) (sp : Bool) (a0 n p : Nat) (f : Nat → Int32) (j q : Nat) (hj : j < n) (hpj : p ≤ j) (hn : n ≤ 2640) (hq : 0 < q) (hq2 : q < 2147483648) (hb : ∀ i, i < n → f i = 0 ∨ f i = 1) (ho : Nat) (o : Nat → Int64) : xC l E y_Q_lose (.codeWith y_Q_lose method_9_code 6 (some .int) [(0, 12, 15, 13)]) rm_Q_lose1 [.ref hx, .int (nI 1), .int (nI (j)), .int (nI (q)), .ref ho] [(hx, .inr (4, [.ref h0, .ref h1, .ref ht, .ref hw, .ref hz, .int (bI sp)])), (h1, .inr (0, [.ref a0, .int (nI (n)), .int (nI (p))])), (a0, .inl (E.2 0, 2640, .inl (f))), (ho, .inl (E.2 2, 1, .inr (.inl (o))))] (xRet (some (.int (nI 0))) [(hx, .inr (4, [.ref h0, .ref h1, .ref ht, .ref hw, .ref hz, .int (bI sp)])), (h1, .inr (0, [.ref a0, .int (nI (n - min q (n - j))), .int (nI (p))])), (a0, .inl (E.2 0, 2640, .inl (va_cpy f f (j + min q (n - j)) j (n - (j + min q (n - j)))))), (ho, .inl (E.2 2, 1, .inr (.inl (vp_updL o 0 ((nI (min q (n - j))).toInt64)))))]) := by
  refine x_ofH' (own := "LineCoderLaw") (mn := "lose") (lv := [(0, .ref hx), (1, .int (nI 1)), (2, .int (nI (j))), (3, .int (nI (q))), (4, .ref ho)]) (plainFor_of_name (by decide)) rfl rfl (Nat.le_of_ble_eq_true rfl) rfl ?_
  intro p_ e_ s_ m_ ar_ be_ me_ c_ A_ hA hB
  refine x_aload 2 hB d_Q_lose_0 rfl rfl ?_
  refine x_iconst (v := nI 0) 3 hB d_Q_lose_2 rfl (by decide) ?_
  refine x_aload_n 4 hB d_Q_lose_3 rfl rfl ?_
  refine x_iload_n 5 hB d_Q_lose_4 rfl rfl ?_
  refine x_iload_n 6 hB d_Q_lose_5 rfl rfl ?_
  refine x_iload_n 7 hB d_Q_lose_6 rfl rfl ?_
  refine x_callD (k' := 0) (n' := 0) (rest := [.int (nI 0), .ref ho]) (wr := [(ho, .inl (E.2 2, 1, .inr (.inl (o))))]) (ws' := [(ho, .inl (E.2 2, 1, .inr (.inl (o)))), (hx, .inr (4, [.ref h0, .ref h1, .ref ht, .ref hw, .ref hz, .int (bI sp)])), (h1, .inr (0, [.ref a0, .int (nI (n - min q (n - j))), .int (nI (p))])), (a0, .inl (E.2 0, 2640, .inl (va_cpy f f (j + min q (n - j)) j (n - (j + min q (n - j))))))]) (st' := [.int (nI (min q (n - j))), .int (nI 0), .ref ho]) 10 hB (x_pfV (av := [.int (nI 1), .int (nI (j)), .int (nI (q))]) (q0 := 0) hB w_529 xHd_code w_526 w_527 w_528 rfl rfl nm_X_lose rfl d_Q_lose_7) (c_X_lose1 l E hx h0 h1 ht hw hz sp a0 n p f j q hj hpj hn hq hq2 hb) w_529 xHd_code w_1 [0, 1, 2] [3] rfl rfl rfl rfl (by decide) ⟨by decide, by decide⟩ ⟨by decide, by decide⟩ rfl rfl (Nat.le_of_ble_eq_true rfl) d_Q_lose_7 rfl rfl rfl ?_
  refine x_i2l (v := (nI (min q (n - j))).toInt64) 11 hB d_Q_lose_10 rfl (rfl) ?_
  refine x_last 12 hB 0 (ws' := [(ho, .inl (E.2 2, 1, .inr (.inl (vp_updL o 0 ((nI (min q (n - j))).toInt64))))), (hx, .inr (4, [.ref h0, .ref h1, .ref ht, .ref hw, .ref hz, .int (bI sp)])), (h1, .inr (0, [.ref a0, .int (nI (n - min q (n - j))), .int (nI (p))])), (a0, .inl (E.2 0, 2640, .inl (va_cpy f f (j + min q (n - j)) j (n - (j + min q (n - j))))))]) rfl (by omega) (by decide) (x' := (nI (min q (n - j))).toInt64) (rfl) rfl d_Q_lose_11 rfl ?_
  refine x_goto 19 hB d_Q_lose_12 (by decide) ?_
  refine x_iconst (v := nI 0) 20 hB d_Q_lose_19 rfl (by decide) ?_
  exact x_iret hB (w' := [(hx, .inr (4, [.ref h0, .ref h1, .ref ht, .ref hw, .ref hz, .int (bI sp)])), (h1, .inr (0, [.ref a0, .int (nI (n - min q (n - j))), .int (nI (p))])), (a0, .inl (E.2 0, 2640, .inl (va_cpy f f (j + min q (n - j)) j (n - (j + min q (n - j)))))), (ho, .inl (E.2 2, 1, .inr (.inl (vp_updL o 0 ((nI (min q (n - j))).toInt64)))))]) hA [1, 2, 3, 0] rfl rfl (xRet_i) (by decide) (by decide) d_Q_lose_20
abbrev rm_Q_lose1_z : Room := { frames := 3, cells := 0, slots := 0, locals := 69 }
set_option maxHeartbeats 4000000 in
set_option maxRecDepth 100000 in
theorem c_Q_lose1_z (l : Launch) (E : xE) (hx h0 h1 ht hw hz : Nat) (sp : Bool) (a0 n p : Nat) (f : Nat → Int32) (j : Nat) (hj : j < n) (hpj : p ≤ j) (hn : n ≤ 2640) (ho : Nat) (o : Nat → Int64) : xC l E y_Q_lose (.codeWith y_Q_lose method_9_code 6 (some .int) [(0, 12, 15, 13)]) rm_Q_lose1_z [.ref hx, .int (nI 1), .int (nI (j)), .int (nI (0)), .ref ho] [(hx, .inr (4, [.ref h0, .ref h1, .ref ht, .ref hw, .ref hz, .int (bI sp)])), (h1, .inr (0, [.ref a0, .int (nI (n)), .int (nI (p))])), (a0, .inl (E.2 0, 2640, .inl (f))), (ho, .inl (E.2 2, 1, .inr (.inl (o))))] (xRet (some (.int (nI 0))) [(hx, .inr (4, [.ref h0, .ref h1, .ref ht, .ref hw, .ref hz, .int (bI sp)])), (h1, .inr (0, [.ref a0, .int (nI (n)), .int (nI (p))])), (a0, .inl (E.2 0, 2640, .inl (f))), (ho, .inl (E.2 2, 1, .inr (.inl (vp_updL o 0 ((nI 0).toInt64)))))]) := by
  refine x_ofH' (own := "LineCoderLaw") (mn := "lose") (lv := [(0, .ref hx), (1, .int (nI 1)), (2, .int (nI (j))), (3, .int (nI (0))), (4, .ref ho)]) (plainFor_of_name (by decide)) rfl rfl (Nat.le_of_ble_eq_true rfl) rfl ?_
  intro p_ e_ s_ m_ ar_ be_ me_ c_ A_ hA hB
  refine x_aload 2 hB d_Q_lose_0 rfl rfl ?_
  refine x_iconst (v := nI 0) 3 hB d_Q_lose_2 rfl (by decide) ?_
  refine x_aload_n 4 hB d_Q_lose_3 rfl rfl ?_
  refine x_iload_n 5 hB d_Q_lose_4 rfl rfl ?_
  refine x_iload_n 6 hB d_Q_lose_5 rfl rfl ?_
  refine x_iload_n 7 hB d_Q_lose_6 rfl rfl ?_
  refine x_callP (k' := 0) (n' := 0) (rest := [.int (nI 0), .ref ho]) (st' := [.int (nI 0), .int (nI 0), .ref ho]) 10 hB (x_pfV (av := [.int (nI 1), .int (nI (j)), .int (nI (0))]) (q0 := 0) hB w_529 xHd_code w_526 w_527 w_528 rfl rfl nm_X_lose rfl d_Q_lose_7) (c_X_lose1_z l E hx h0 h1 ht hw hz sp a0 n p f j hj hpj hn) w_529 xHd_code w_1 [0, 1, 2] rfl rfl ⟨by decide, by decide⟩ ⟨by decide, by decide⟩ rfl rfl (Nat.le_of_ble_eq_true rfl) d_Q_lose_7 rfl rfl ?_
  refine x_i2l (v := (nI 0).toInt64) 11 hB d_Q_lose_10 rfl (rfl) ?_
  refine x_last 12 hB 3 (ws' := [(hx, .inr (4, [.ref h0, .ref h1, .ref ht, .ref hw, .ref hz, .int (bI sp)])), (h1, .inr (0, [.ref a0, .int (nI (n)), .int (nI (p))])), (a0, .inl (E.2 0, 2640, .inl (f))), (ho, .inl (E.2 2, 1, .inr (.inl (vp_updL o 0 ((nI 0).toInt64)))))]) rfl (by omega) (by decide) (x' := (nI 0).toInt64) (rfl) rfl d_Q_lose_11 rfl ?_
  refine x_goto 19 hB d_Q_lose_12 (by decide) ?_
  refine x_iconst (v := nI 0) 20 hB d_Q_lose_19 rfl (by decide) ?_
  exact x_iret hB (w' := [(hx, .inr (4, [.ref h0, .ref h1, .ref ht, .ref hw, .ref hz, .int (bI sp)])), (h1, .inr (0, [.ref a0, .int (nI (n)), .int (nI (p))])), (a0, .inl (E.2 0, 2640, .inl (f))), (ho, .inl (E.2 2, 1, .inr (.inl (vp_updL o 0 ((nI 0).toInt64)))))]) hA [0, 1, 2, 3] rfl rfl (xRet_i) (by decide) (by decide) d_Q_lose_20
abbrev rm_Q_lose1_o : Room := { frames := 3, cells := 0, slots := 0, locals := 69 }
set_option maxHeartbeats 4000000 in
set_option maxRecDepth 100000 in
theorem c_Q_lose1_o (l : Launch) (E : xE) (hx h0 h1 ht hw hz : Nat) (sp : Bool) (a0 n p : Nat) (f : Nat → Int32) (k z : Int32) (hz9 : 0 ≤ z) (hk : nI n ≤ k) (hpk : nI p ≤ k) (ho : Nat) (o : Nat → Int64) : xC l E y_Q_lose (.codeWith y_Q_lose method_9_code 6 (some .int) [(0, 12, 15, 13)]) rm_Q_lose1_o [.ref hx, .int (nI 1), .int (k), .int (z), .ref ho] [(hx, .inr (4, [.ref h0, .ref h1, .ref ht, .ref hw, .ref hz, .int (bI sp)])), (h1, .inr (0, [.ref a0, .int (nI (n)), .int (nI (p))])), (a0, .inl (E.2 0, 2640, .inl (f))), (ho, .inl (E.2 2, 1, .inr (.inl (o))))] (xRet (some (.int (nI 0))) [(hx, .inr (4, [.ref h0, .ref h1, .ref ht, .ref hw, .ref hz, .int (bI sp)])), (h1, .inr (0, [.ref a0, .int (nI (n)), .int (nI (p))])), (a0, .inl (E.2 0, 2640, .inl (f))), (ho, .inl (E.2 2, 1, .inr (.inl (vp_updL o 0 ((nI 0).toInt64)))))]) := by
  refine x_ofH' (own := "LineCoderLaw") (mn := "lose") (lv := [(0, .ref hx), (1, .int (nI 1)), (2, .int (k)), (3, .int (z)), (4, .ref ho)]) (plainFor_of_name (by decide)) rfl rfl (Nat.le_of_ble_eq_true rfl) rfl ?_
  intro p_ e_ s_ m_ ar_ be_ me_ c_ A_ hA hB
  refine x_aload 2 hB d_Q_lose_0 rfl rfl ?_
  refine x_iconst (v := nI 0) 3 hB d_Q_lose_2 rfl (by decide) ?_
  refine x_aload_n 4 hB d_Q_lose_3 rfl rfl ?_
  refine x_iload_n 5 hB d_Q_lose_4 rfl rfl ?_
  refine x_iload_n 6 hB d_Q_lose_5 rfl rfl ?_
  refine x_iload_n 7 hB d_Q_lose_6 rfl rfl ?_
  refine x_callP (k' := 0) (n' := 0) (rest := [.int (nI 0), .ref ho]) (st' := [.int (nI 0), .int (nI 0), .ref ho]) 10 hB (x_pfV (av := [.int (nI 1), .int (k), .int (z)]) (q0 := 0) hB w_529 xHd_code w_526 w_527 w_528 rfl rfl nm_X_lose rfl d_Q_lose_7) (c_X_lose1_o l E hx h0 h1 ht hw hz sp a0 n p f k z hz9 hk hpk) w_529 xHd_code w_1 [0, 1, 2] rfl rfl ⟨by decide, by decide⟩ ⟨by decide, by decide⟩ rfl rfl (Nat.le_of_ble_eq_true rfl) d_Q_lose_7 rfl rfl ?_
  refine x_i2l (v := (nI 0).toInt64) 11 hB d_Q_lose_10 rfl (rfl) ?_
  refine x_last 12 hB 3 (ws' := [(hx, .inr (4, [.ref h0, .ref h1, .ref ht, .ref hw, .ref hz, .int (bI sp)])), (h1, .inr (0, [.ref a0, .int (nI (n)), .int (nI (p))])), (a0, .inl (E.2 0, 2640, .inl (f))), (ho, .inl (E.2 2, 1, .inr (.inl (vp_updL o 0 ((nI 0).toInt64)))))]) rfl (by omega) (by decide) (x' := (nI 0).toInt64) (rfl) rfl d_Q_lose_11 rfl ?_
  refine x_goto 19 hB d_Q_lose_12 (by decide) ?_
  refine x_iconst (v := nI 0) 20 hB d_Q_lose_19 rfl (by decide) ?_
  exact x_iret hB (w' := [(hx, .inr (4, [.ref h0, .ref h1, .ref ht, .ref hw, .ref hz, .int (bI sp)])), (h1, .inr (0, [.ref a0, .int (nI (n)), .int (nI (p))])), (a0, .inl (E.2 0, 2640, .inl (f))), (ho, .inl (E.2 2, 1, .inr (.inl (vp_updL o 0 ((nI 0).toInt64)))))]) hA [0, 1, 2, 3] rfl rfl (xRet_i) (by decide) (by decide) d_Q_lose_20
abbrev rm_Q_lose1_m : Room := { frames := 7, cells := 1, slots := 6, locals := 107 }
set_option maxHeartbeats 4000000 in
set_option maxRecDepth 100000 in
theorem c_Q_lose1_m (l : Launch) (E : xE) (hx h0 h1 ht hw hz : Nat) (sp : Bool) (hT : xNoTr l) (k z : Int32) (hz9 : ¬ 0 ≤ z) (ho : Nat) (o : Nat → Int64) : xC l E y_Q_lose (.codeWith y_Q_lose method_9_code 6 (some .int) [(0, 12, 15, 13)]) rm_Q_lose1_m [.ref hx, .int (nI 1), .int (k), .int (z), .ref ho] [(hx, .inr (4, [.ref h0, .ref h1, .ref ht, .ref hw, .ref hz, .int (bI sp)])), (ho, .inl (E.2 2, 1, .inr (.inl (o))))] (xRet (some (.int (nI 1))) [(hx, .inr (4, [.ref h0, .ref h1, .ref ht, .ref hw, .ref hz, .int (bI sp)])), (ho, .inl (E.2 2, 1, .inr (.inl (o))))]) := by
  refine x_ofH' (own := "LineCoderLaw") (mn := "lose") (lv := [(0, .ref hx), (1, .int (nI 1)), (2, .int (k)), (3, .int (z)), (4, .ref ho)]) (plainFor_of_name (by decide)) rfl rfl (Nat.le_of_ble_eq_true rfl) rfl ?_
  intro p_ e_ s_ m_ ar_ be_ me_ c_ A_ hA hB
  refine x_aload 2 hB d_Q_lose_0 rfl rfl ?_
  refine x_iconst (v := nI 0) 3 hB d_Q_lose_2 rfl (by decide) ?_
  refine x_aload_n 4 hB d_Q_lose_3 rfl rfl ?_
  refine x_iload_n 5 hB d_Q_lose_4 rfl rfl ?_
  refine x_iload_n 6 hB d_Q_lose_5 rfl rfl ?_
  refine x_iload_n 7 hB d_Q_lose_6 rfl rfl ?_
  refine x_callPT (k' := 1) (n' := 6) (rest := [.int (nI 0), .ref ho]) hB (x_pfV (av := [.int (nI 1), .int (k), .int (z)]) (q0 := 0) hB w_529 xHd_code w_526 w_527 w_528 rfl rfl nm_X_lose rfl d_Q_lose_7) (c_X_lose1_m l E hT hx h0 h1 ht hw hz sp k z hz9) w_529 xHd_code w_1 [0] rfl rfl ⟨by decide, by decide⟩ ⟨by decide, by decide⟩ rfl rfl (Nat.le_of_ble_eq_true rfl) d_Q_lose_7 ?_
  refine x_catch1 hB w_343 ⟨by decide, by decide⟩ (by decide) (fun q_ => ?_)
  refine x_astore 17 hB d_Q_lose_15 rfl (by decide) (lv' := [(5, .ref q_), (0, .ref hx), (1, .int (nI 1)), (2, .int (k)), (3, .int (z)), (4, .ref ho)]) rfl ?_
  refine x_iconst (v := nI 1) 18 hB d_Q_lose_17 rfl (by decide) ?_
  exact x_iret hB (w' := [(hx, .inr (4, [.ref h0, .ref h1, .ref ht, .ref hw, .ref hz, .int (bI sp)])), (ho, .inl (E.2 2, 1, .inr (.inl (o))))]) hA [0, 1] rfl rfl (xRet_i) (by decide) (by decide) d_Q_lose_18
abbrev rm_Q_lose1_p : Room := { frames := 7, cells := 1, slots := 6, locals := 107 }
set_option maxHeartbeats 4000000 in
set_option maxRecDepth 100000 in
theorem c_Q_lose1_p (l : Launch) (E : xE) (hx h0 h1 ht hw hz : Nat) (sp : Bool) (hT : xNoTr l) (a0 n p : Nat) (k z : Int32) (hz9 : 0 ≤ z) (hpk : ¬ nI p ≤ k) (ho : Nat) (o : Nat → Int64) : xC l E y_Q_lose (.codeWith y_Q_lose method_9_code 6 (some .int) [(0, 12, 15, 13)]) rm_Q_lose1_p [.ref hx, .int (nI 1), .int (k), .int (z), .ref ho] [(hx, .inr (4, [.ref h0, .ref h1, .ref ht, .ref hw, .ref hz, .int (bI sp)])), (h1, .inr (0, [.ref a0, .int (nI (n)), .int (nI (p))])), (ho, .inl (E.2 2, 1, .inr (.inl (o))))] (xRet (some (.int (nI 1))) [(hx, .inr (4, [.ref h0, .ref h1, .ref ht, .ref hw, .ref hz, .int (bI sp)])), (h1, .inr (0, [.ref a0, .int (nI (n)), .int (nI (p))])), (ho, .inl (E.2 2, 1, .inr (.inl (o))))]) := by
  refine x_ofH' (own := "LineCoderLaw") (mn := "lose") (lv := [(0, .ref hx), (1, .int (nI 1)), (2, .int (k)), (3, .int (z)), (4, .ref ho)]) (plainFor_of_name (by decide)) rfl rfl (Nat.le_of_ble_eq_true rfl) rfl ?_
  intro p_ e_ s_ m_ ar_ be_ me_ c_ A_ hA hB
  refine x_aload 2 hB d_Q_lose_0 rfl rfl ?_
  refine x_iconst (v := nI 0) 3 hB d_Q_lose_2 rfl (by decide) ?_
  refine x_aload_n 4 hB d_Q_lose_3 rfl rfl ?_
  refine x_iload_n 5 hB d_Q_lose_4 rfl rfl ?_
  refine x_iload_n 6 hB d_Q_lose_5 rfl rfl ?_
  refine x_iload_n 7 hB d_Q_lose_6 rfl rfl ?_
  refine x_callPT (k' := 1) (n' := 6) (rest := [.int (nI 0), .ref ho]) hB (x_pfV (av := [.int (nI 1), .int (k), .int (z)]) (q0 := 0) hB w_529 xHd_code w_526 w_527 w_528 rfl rfl nm_X_lose rfl d_Q_lose_7) (c_X_lose1_p l E hT hx h0 h1 ht hw hz sp a0 n p k z hz9 hpk) w_529 xHd_code w_1 [0, 1] rfl rfl ⟨by decide, by decide⟩ ⟨by decide, by decide⟩ rfl rfl (Nat.le_of_ble_eq_true rfl) d_Q_lose_7 ?_
  refine x_catch1 hB w_343 ⟨by decide, by decide⟩ (by decide) (fun q_ => ?_)
  refine x_astore 17 hB d_Q_lose_15 rfl (by decide) (lv' := [(5, .ref q_), (0, .ref hx), (1, .int (nI 1)), (2, .int (k)), (3, .int (z)), (4, .ref ho)]) rfl ?_
  refine x_iconst (v := nI 1) 18 hB d_Q_lose_17 rfl (by decide) ?_
  exact x_iret hB (w' := [(hx, .inr (4, [.ref h0, .ref h1, .ref ht, .ref hw, .ref hz, .int (bI sp)])), (h1, .inr (0, [.ref a0, .int (nI (n)), .int (nI (p))])), (ho, .inl (E.2 2, 1, .inr (.inl (o))))]) hA [0, 1, 2] rfl rfl (xRet_i) (by decide) (by decide) d_Q_lose_18
abbrev rm_Q_bit1 : Room := { frames := 3, cells := 0, slots := 0, locals := 64 }
set_option maxHeartbeats 4000000 in
set_option maxRecDepth 100000 in
theorem c_Q_bit1 (l : Launch) (E : xE) (hx h0 h1 ht hw hz : Nat) (sp : Bool) (a0 n p : Nat) (f : Nat → Int32) (j : Nat) (hj : j < n) (hn : n ≤ 2640) (ho : Nat) (o : Nat → Int64) : xC l E y_Q_bit (.codeWith y_Q_bit method_10_code 5 (some .int) [(0, 10, 13, 13)]) rm_Q_bit1 [.ref hx, .int (nI 1), .int (nI (j)), .ref ho] [(hx, .inr (4, [.ref h0, .ref h1, .ref ht, .ref hw, .ref hz, .int (bI sp)])), (h1, .inr (0, [.ref a0, .int (nI (n)), .int (nI (p))])), (a0, .inl (E.2 0, 2640, .inl (f))), (ho, .inl (E.2 2, 1, .inr (.inl (o))))] (xRet (some (.int (nI 0))) [(hx, .inr (4, [.ref h0, .ref h1, .ref ht, .ref hw, .ref hz, .int (bI sp)])), (h1, .inr (0, [.ref a0, .int (nI (n)), .int (nI (p))])), (a0, .inl (E.2 0, 2640, .inl (f))), (ho, .inl (E.2 2, 1, .inr (.inl (vp_updL o 0 (((f) (j)).toInt64)))))]) := by
  refine x_ofH' (own := "LineCoderLaw") (mn := "bit") (lv := [(0, .ref hx), (1, .int (nI 1)), (2, .int (nI (j))), (3, .ref ho)]) (plainFor_of_name (by decide)) rfl rfl (Nat.le_of_ble_eq_true rfl) rfl ?_
  intro p_ e_ s_ m_ ar_ be_ me_ c_ A_ hA hB
  refine x_aload_n 1 hB d_Q_bit_0 rfl rfl ?_
  refine x_iconst (v := nI 0) 2 hB d_Q_bit_1 rfl (by decide) ?_
  refine x_aload_n 3 hB d_Q_bit_2 rfl rfl ?_
  refine x_iload_n 4 hB d_Q_bit_3 rfl rfl ?_
  refine x_iload_n 5 hB d_Q_bit_4 rfl rfl ?_
  refine x_callP (k' := 0) (n' := 0) (rest := [.int (nI 0), .ref ho]) (st' := [.int ((f) (j)), .int (nI 0), .ref ho]) 8 hB (x_pfV (av := [.int (nI 1), .int (nI (j))]) (q0 := 0) hB w_549 xHd_code w_546 w_547 w_548 rfl rfl nm_X_bit rfl d_Q_bit_5) (c_X_bit1 l E hx h0 h1 ht hw hz sp a0 n p f j hj hn) w_549 xHd_code w_1 [0, 1, 2] rfl rfl ⟨by decide, by decide⟩ ⟨by decide, by decide⟩ rfl rfl (Nat.le_of_ble_eq_true rfl) d_Q_bit_5 rfl rfl ?_
  refine x_i2l (v := ((f) (j)).toInt64) 9 hB d_Q_bit_8 rfl (rfl) ?_
  refine x_last 10 hB 3 (ws' := [(hx, .inr (4, [.ref h0, .ref h1, .ref ht, .ref hw, .ref hz, .int (bI sp)])), (h1, .inr (0, [.ref a0, .int (nI (n)), .int (nI (p))])), (a0, .inl (E.2 0, 2640, .inl (f))), (ho, .inl (E.2 2, 1, .inr (.inl (vp_updL o 0 (((f) (j)).toInt64)))))]) rfl (by omega) (by decide) (x' := ((f) (j)).toInt64) (rfl) rfl d_Q_bit_9 rfl ?_
  refine x_goto 17 hB d_Q_bit_10 (by decide) ?_
  refine x_iconst (v := nI 0) 18 hB d_Q_bit_17 rfl (by decide) ?_
  exact x_iret hB (w' := [(hx, .inr (4, [.ref h0, .ref h1, .ref ht, .ref hw, .ref hz, .int (bI sp)])), (h1, .inr (0, [.ref a0, .int (nI (n)), .int (nI (p))])), (a0, .inl (E.2 0, 2640, .inl (f))), (ho, .inl (E.2 2, 1, .inr (.inl (vp_updL o 0 (((f) (j)).toInt64)))))]) hA [0, 1, 2, 3] rfl rfl (xRet_i) (by decide) (by decide) d_Q_bit_18
abbrev rm_Q_bit1_o : Room := { frames := 3, cells := 0, slots := 0, locals := 64 }
set_option maxHeartbeats 4000000 in
set_option maxRecDepth 100000 in
theorem c_Q_bit1_o (l : Launch) (E : xE) (hx h0 h1 ht hw hz : Nat) (sp : Bool) (a0 n p : Nat) (f : Nat → Int32) (k : Int32) (hk : k < 0 ∨ nI n ≤ k) (ho : Nat) (o : Nat → Int64) : xC l E y_Q_bit (.codeWith y_Q_bit method_10_code 5 (some .int) [(0, 10, 13, 13)]) rm_Q_bit1_o [.ref hx, .int (nI 1), .int (k), .ref ho] [(hx, .inr (4, [.ref h0, .ref h1, .ref ht, .ref hw, .ref hz, .int (bI sp)])), (h1, .inr (0, [.ref a0, .int (nI (n)), .int (nI (p))])), (a0, .inl (E.2 0, 2640, .inl (f))), (ho, .inl (E.2 2, 1, .inr (.inl (o))))] (xRet (some (.int (nI 0))) [(hx, .inr (4, [.ref h0, .ref h1, .ref ht, .ref hw, .ref hz, .int (bI sp)])), (h1, .inr (0, [.ref a0, .int (nI (n)), .int (nI (p))])), (a0, .inl (E.2 0, 2640, .inl (f))), (ho, .inl (E.2 2, 1, .inr (.inl (vp_updL o 0 ((-1).toInt64)))))]) := by
  refine x_ofH' (own := "LineCoderLaw") (mn := "bit") (lv := [(0, .ref hx), (1, .int (nI 1)), (2, .int (k)), (3, .ref ho)]) (plainFor_of_name (by decide)) rfl rfl (Nat.le_of_ble_eq_true rfl) rfl ?_
  intro p_ e_ s_ m_ ar_ be_ me_ c_ A_ hA hB
  refine x_aload_n 1 hB d_Q_bit_0 rfl rfl ?_
  refine x_iconst (v := nI 0) 2 hB d_Q_bit_1 rfl (by decide) ?_
  refine x_aload_n 3 hB d_Q_bit_2 rfl rfl ?_
  refine x_iload_n 4 hB d_Q_bit_3 rfl rfl ?_
  refine x_iload_n 5 hB d_Q_bit_4 rfl rfl ?_
  refine x_callP (k' := 0) (n' := 0) (rest := [.int (nI 0), .ref ho]) (st' := [.int (-1), .int (nI 0), .ref ho]) 8 hB (x_pfV (av := [.int (nI 1), .int (k)]) (q0 := 0) hB w_549 xHd_code w_546 w_547 w_548 rfl rfl nm_X_bit rfl d_Q_bit_5) (c_X_bit1_o l E hx h0 h1 ht hw hz sp a0 n p f k hk) w_549 xHd_code w_1 [0, 1, 2] rfl rfl ⟨by decide, by decide⟩ ⟨by decide, by decide⟩ rfl rfl (Nat.le_of_ble_eq_true rfl) d_Q_bit_5 rfl rfl ?_
  refine x_i2l (v := (-1).toInt64) 9 hB d_Q_bit_8 rfl (rfl) ?_
  refine x_last 10 hB 3 (ws' := [(hx, .inr (4, [.ref h0, .ref h1, .ref ht, .ref hw, .ref hz, .int (bI sp)])), (h1, .inr (0, [.ref a0, .int (nI (n)), .int (nI (p))])), (a0, .inl (E.2 0, 2640, .inl (f))), (ho, .inl (E.2 2, 1, .inr (.inl (vp_updL o 0 ((-1).toInt64)))))]) rfl (by omega) (by decide) (x' := (-1).toInt64) (rfl) rfl d_Q_bit_9 rfl ?_
  refine x_goto 17 hB d_Q_bit_10 (by decide) ?_
  refine x_iconst (v := nI 0) 18 hB d_Q_bit_17 rfl (by decide) ?_
  exact x_iret hB (w' := [(hx, .inr (4, [.ref h0, .ref h1, .ref ht, .ref hw, .ref hz, .int (bI sp)])), (h1, .inr (0, [.ref a0, .int (nI (n)), .int (nI (p))])), (a0, .inl (E.2 0, 2640, .inl (f))), (ho, .inl (E.2 2, 1, .inr (.inl (vp_updL o 0 ((-1).toInt64)))))]) hA [0, 1, 2, 3] rfl rfl (xRet_i) (by decide) (by decide) d_Q_bit_18
abbrev rm_Q_count1_0 : Room := { frames := 2, cells := 0, slots := 0, locals := 45 }
set_option maxHeartbeats 4000000 in
set_option maxRecDepth 100000 in
theorem c_Q_count1_0 (l : Launch) (E : xE) (hx h0 h1 ht hw hz : Nat) (sp : Bool) (a0 n p : Nat) (f : Nat → Int32) (hs : Nat) (fo : Bool) (sl bd wr gr : Nat) (la : Int32) (last : Int64) (hn : n ≤ 2640) (ho : Nat) (o : Nat → Int64) : xC l E y_Q_count (.codeWith y_Q_count method_11_code 5 (some .int) [(0, 10, 13, 13)]) rm_Q_count1_0 [.ref hx, .int (nI 1), .int (nI 0), .ref ho] [(hx, .inr (4, [.ref h0, .ref h1, .ref ht, .ref hw, .ref hz, .int (bI sp)])), (h1, .inr (0, [.ref a0, .int (nI (n)), .int (nI (p))])), (a0, .inl (E.2 0, 2640, .inl (f))), (hw, .inr (3, [.ref h1, .int (bI fo), .int (nI (sl)), .int (nI (bd)), .int (nI (wr)), .ref hs, .int (nI (gr)), .int (la), .long (last)])), (ho, .inl (E.2 2, 1, .inr (.inl (o))))] (xRet (some (.int (nI 0))) [(hx, .inr (4, [.ref h0, .ref h1, .ref ht, .ref hw, .ref hz, .int (bI sp)])), (h1, .inr (0, [.ref a0, .int (nI (n)), .int (nI (p))])), (a0, .inl (E.2 0, 2640, .inl (f))), (hw, .inr (3, [.ref h1, .int (bI fo), .int (nI (sl)), .int (nI (bd)), .int (nI (wr)), .ref hs, .int (nI (gr)), .int (la), .long (last)])), (ho, .inl (E.2 2, 1, .inr (.inl (vp_updL o 0 ((nI (n)).toInt64)))))]) := by
  refine x_ofH' (own := "LineCoderLaw") (mn := "count") (lv := [(0, .ref hx), (1, .int (nI 1)), (2, .int (nI 0)), (3, .ref ho)]) (plainFor_of_name (by decide)) rfl rfl (Nat.le_of_ble_eq_true rfl) rfl ?_
  intro p_ e_ s_ m_ ar_ be_ me_ c_ A_ hA hB
  refine x_aload_n 1 hB d_Q_count_0 rfl rfl ?_
  refine x_iconst (v := nI 0) 2 hB d_Q_count_1 rfl (by decide) ?_
  refine x_aload_n 3 hB d_Q_count_2 rfl rfl ?_
  refine x_iload_n 4 hB d_Q_count_3 rfl rfl ?_
  refine x_iload_n 5 hB d_Q_count_4 rfl rfl ?_
  refine x_callP (k' := 0) (n' := 0) (rest := [.int (nI 0), .ref ho]) (st' := [.int (nI (n)), .int (nI 0), .ref ho]) 8 hB (x_pfV (av := [.int (nI 1), .int (nI 0)]) (q0 := 0) hB w_556 xHd_code w_553 w_554 w_555 rfl rfl nm_X_count rfl d_Q_count_5) (c_X_count1_0 l E hx h0 h1 ht hw hz sp a0 n p f hs fo sl bd wr gr la last hn) w_556 xHd_code w_1 [0, 1, 2, 3] rfl rfl ⟨by decide, by decide⟩ ⟨by decide, by decide⟩ rfl rfl (Nat.le_of_ble_eq_true rfl) d_Q_count_5 rfl rfl ?_
  refine x_i2l (v := (nI (n)).toInt64) 9 hB d_Q_count_8 rfl (rfl) ?_
  refine x_last 10 hB 4 (ws' := [(hx, .inr (4, [.ref h0, .ref h1, .ref ht, .ref hw, .ref hz, .int (bI sp)])), (h1, .inr (0, [.ref a0, .int (nI (n)), .int (nI (p))])), (a0, .inl (E.2 0, 2640, .inl (f))), (hw, .inr (3, [.ref h1, .int (bI fo), .int (nI (sl)), .int (nI (bd)), .int (nI (wr)), .ref hs, .int (nI (gr)), .int (la), .long (last)])), (ho, .inl (E.2 2, 1, .inr (.inl (vp_updL o 0 ((nI (n)).toInt64)))))]) rfl (by omega) (by decide) (x' := (nI (n)).toInt64) (rfl) rfl d_Q_count_9 rfl ?_
  refine x_goto 17 hB d_Q_count_10 (by decide) ?_
  refine x_iconst (v := nI 0) 18 hB d_Q_count_17 rfl (by decide) ?_
  exact x_iret hB (w' := [(hx, .inr (4, [.ref h0, .ref h1, .ref ht, .ref hw, .ref hz, .int (bI sp)])), (h1, .inr (0, [.ref a0, .int (nI (n)), .int (nI (p))])), (a0, .inl (E.2 0, 2640, .inl (f))), (hw, .inr (3, [.ref h1, .int (bI fo), .int (nI (sl)), .int (nI (bd)), .int (nI (wr)), .ref hs, .int (nI (gr)), .int (la), .long (last)])), (ho, .inl (E.2 2, 1, .inr (.inl (vp_updL o 0 ((nI (n)).toInt64)))))]) hA [0, 1, 2, 3, 4] rfl rfl (xRet_i) (by decide) (by decide) d_Q_count_18
abbrev rm_Q_count1_1 : Room := { frames := 2, cells := 0, slots := 0, locals := 45 }
set_option maxHeartbeats 4000000 in
set_option maxRecDepth 100000 in
theorem c_Q_count1_1 (l : Launch) (E : xE) (hx h0 h1 ht hw hz : Nat) (sp : Bool) (a0 n p : Nat) (f : Nat → Int32) (hs : Nat) (fo : Bool) (sl bd wr gr : Nat) (la : Int32) (last : Int64) (hn : n ≤ 2640) (ho : Nat) (o : Nat → Int64) : xC l E y_Q_count (.codeWith y_Q_count method_11_code 5 (some .int) [(0, 10, 13, 13)]) rm_Q_count1_1 [.ref hx, .int (nI 1), .int (nI 1), .ref ho] [(hx, .inr (4, [.ref h0, .ref h1, .ref ht, .ref hw, .ref hz, .int (bI sp)])), (h1, .inr (0, [.ref a0, .int (nI (n)), .int (nI (p))])), (a0, .inl (E.2 0, 2640, .inl (f))), (hw, .inr (3, [.ref h1, .int (bI fo), .int (nI (sl)), .int (nI (bd)), .int (nI (wr)), .ref hs, .int (nI (gr)), .int (la), .long (last)])), (ho, .inl (E.2 2, 1, .inr (.inl (o))))] (xRet (some (.int (nI 0))) [(hx, .inr (4, [.ref h0, .ref h1, .ref ht, .ref hw, .ref hz, .int (bI sp)])), (h1, .inr (0, [.ref a0, .int (nI (n)), .int (nI (p))])), (a0, .inl (E.2 0, 2640, .inl (f))), (hw, .inr (3, [.ref h1, .int (bI fo), .int (nI (sl)), .int (nI (bd)), .int (nI (wr)), .ref hs, .int (nI (gr)), .int (la), .long (last)])), (ho, .inl (E.2 2, 1, .inr (.inl (vp_updL o 0 ((nI (p)).toInt64)))))]) := by
  refine x_ofH' (own := "LineCoderLaw") (mn := "count") (lv := [(0, .ref hx), (1, .int (nI 1)), (2, .int (nI 1)), (3, .ref ho)]) (plainFor_of_name (by decide)) rfl rfl (Nat.le_of_ble_eq_true rfl) rfl ?_
  intro p_ e_ s_ m_ ar_ be_ me_ c_ A_ hA hB
  refine x_aload_n 1 hB d_Q_count_0 rfl rfl ?_
  refine x_iconst (v := nI 0) 2 hB d_Q_count_1 rfl (by decide) ?_
  refine x_aload_n 3 hB d_Q_count_2 rfl rfl ?_
  refine x_iload_n 4 hB d_Q_count_3 rfl rfl ?_
  refine x_iload_n 5 hB d_Q_count_4 rfl rfl ?_
  refine x_callP (k' := 0) (n' := 0) (rest := [.int (nI 0), .ref ho]) (st' := [.int (nI (p)), .int (nI 0), .ref ho]) 8 hB (x_pfV (av := [.int (nI 1), .int (nI 1)]) (q0 := 0) hB w_556 xHd_code w_553 w_554 w_555 rfl rfl nm_X_count rfl d_Q_count_5) (c_X_count1_1 l E hx h0 h1 ht hw hz sp a0 n p f hs fo sl bd wr gr la last hn) w_556 xHd_code w_1 [0, 1, 2, 3] rfl rfl ⟨by decide, by decide⟩ ⟨by decide, by decide⟩ rfl rfl (Nat.le_of_ble_eq_true rfl) d_Q_count_5 rfl rfl ?_
  refine x_i2l (v := (nI (p)).toInt64) 9 hB d_Q_count_8 rfl (rfl) ?_
  refine x_last 10 hB 4 (ws' := [(hx, .inr (4, [.ref h0, .ref h1, .ref ht, .ref hw, .ref hz, .int (bI sp)])), (h1, .inr (0, [.ref a0, .int (nI (n)), .int (nI (p))])), (a0, .inl (E.2 0, 2640, .inl (f))), (hw, .inr (3, [.ref h1, .int (bI fo), .int (nI (sl)), .int (nI (bd)), .int (nI (wr)), .ref hs, .int (nI (gr)), .int (la), .long (last)])), (ho, .inl (E.2 2, 1, .inr (.inl (vp_updL o 0 ((nI (p)).toInt64)))))]) rfl (by omega) (by decide) (x' := (nI (p)).toInt64) (rfl) rfl d_Q_count_9 rfl ?_
  refine x_goto 17 hB d_Q_count_10 (by decide) ?_
  refine x_iconst (v := nI 0) 18 hB d_Q_count_17 rfl (by decide) ?_
  exact x_iret hB (w' := [(hx, .inr (4, [.ref h0, .ref h1, .ref ht, .ref hw, .ref hz, .int (bI sp)])), (h1, .inr (0, [.ref a0, .int (nI (n)), .int (nI (p))])), (a0, .inl (E.2 0, 2640, .inl (f))), (hw, .inr (3, [.ref h1, .int (bI fo), .int (nI (sl)), .int (nI (bd)), .int (nI (wr)), .ref hs, .int (nI (gr)), .int (la), .long (last)])), (ho, .inl (E.2 2, 1, .inr (.inl (vp_updL o 0 ((nI (p)).toInt64)))))]) hA [0, 1, 2, 3, 4] rfl rfl (xRet_i) (by decide) (by decide) d_Q_count_18
abbrev rm_Q_count1_2 : Room := { frames := 2, cells := 0, slots := 0, locals := 45 }
set_option maxHeartbeats 4000000 in
set_option maxRecDepth 100000 in
theorem c_Q_count1_2 (l : Launch) (E : xE) (hx h0 h1 ht hw hz : Nat) (sp : Bool) (a0 n p : Nat) (f : Nat → Int32) (hs : Nat) (fo : Bool) (sl bd wr gr : Nat) (la : Int32) (last : Int64) (hn : n ≤ 2640) (ho : Nat) (o : Nat → Int64) : xC l E y_Q_count (.codeWith y_Q_count method_11_code 5 (some .int) [(0, 10, 13, 13)]) rm_Q_count1_2 [.ref hx, .int (nI 1), .int (nI 2), .ref ho] [(hx, .inr (4, [.ref h0, .ref h1, .ref ht, .ref hw, .ref hz, .int (bI sp)])), (h1, .inr (0, [.ref a0, .int (nI (n)), .int (nI (p))])), (a0, .inl (E.2 0, 2640, .inl (f))), (hw, .inr (3, [.ref h1, .int (bI fo), .int (nI (sl)), .int (nI (bd)), .int (nI (wr)), .ref hs, .int (nI (gr)), .int (la), .long (last)])), (ho, .inl (E.2 2, 1, .inr (.inl (o))))] (xRet (some (.int (nI 0))) [(hx, .inr (4, [.ref h0, .ref h1, .ref ht, .ref hw, .ref hz, .int (bI sp)])), (h1, .inr (0, [.ref a0, .int (nI (n)), .int (nI (p))])), (a0, .inl (E.2 0, 2640, .inl (f))), (hw, .inr (3, [.ref h1, .int (bI fo), .int (nI (sl)), .int (nI (bd)), .int (nI (wr)), .ref hs, .int (nI (gr)), .int (la), .long (last)])), (ho, .inl (E.2 2, 1, .inr (.inl (vp_updL o 0 ((bI fo).toInt64)))))]) := by
  refine x_ofH' (own := "LineCoderLaw") (mn := "count") (lv := [(0, .ref hx), (1, .int (nI 1)), (2, .int (nI 2)), (3, .ref ho)]) (plainFor_of_name (by decide)) rfl rfl (Nat.le_of_ble_eq_true rfl) rfl ?_
  intro p_ e_ s_ m_ ar_ be_ me_ c_ A_ hA hB
  refine x_aload_n 1 hB d_Q_count_0 rfl rfl ?_
  refine x_iconst (v := nI 0) 2 hB d_Q_count_1 rfl (by decide) ?_
  refine x_aload_n 3 hB d_Q_count_2 rfl rfl ?_
  refine x_iload_n 4 hB d_Q_count_3 rfl rfl ?_
  refine x_iload_n 5 hB d_Q_count_4 rfl rfl ?_
  refine x_callP (k' := 0) (n' := 0) (rest := [.int (nI 0), .ref ho]) (st' := [.int (bI fo), .int (nI 0), .ref ho]) 8 hB (x_pfV (av := [.int (nI 1), .int (nI 2)]) (q0 := 0) hB w_556 xHd_code w_553 w_554 w_555 rfl rfl nm_X_count rfl d_Q_count_5) (c_X_count1_2 l E hx h0 h1 ht hw hz sp a0 n p f hs fo sl bd wr gr la last hn) w_556 xHd_code w_1 [0, 1, 2, 3] rfl rfl ⟨by decide, by decide⟩ ⟨by decide, by decide⟩ rfl rfl (Nat.le_of_ble_eq_true rfl) d_Q_count_5 rfl rfl ?_
  refine x_i2l (v := (bI fo).toInt64) 9 hB d_Q_count_8 rfl (rfl) ?_
  refine x_last 10 hB 4 (ws' := [(hx, .inr (4, [.ref h0, .ref h1, .ref ht, .ref hw, .ref hz, .int (bI sp)])), (h1, .inr (0, [.ref a0, .int (nI (n)), .int (nI (p))])), (a0, .inl (E.2 0, 2640, .inl (f))), (hw, .inr (3, [.ref h1, .int (bI fo), .int (nI (sl)), .int (nI (bd)), .int (nI (wr)), .ref hs, .int (nI (gr)), .int (la), .long (last)])), (ho, .inl (E.2 2, 1, .inr (.inl (vp_updL o 0 ((bI fo).toInt64)))))]) rfl (by omega) (by decide) (x' := (bI fo).toInt64) (rfl) rfl d_Q_count_9 rfl ?_
  refine x_goto 17 hB d_Q_count_10 (by decide) ?_
  refine x_iconst (v := nI 0) 18 hB d_Q_count_17 rfl (by decide) ?_
  exact x_iret hB (w' := [(hx, .inr (4, [.ref h0, .ref h1, .ref ht, .ref hw, .ref hz, .int (bI sp)])), (h1, .inr (0, [.ref a0, .int (nI (n)), .int (nI (p))])), (a0, .inl (E.2 0, 2640, .inl (f))), (hw, .inr (3, [.ref h1, .int (bI fo), .int (nI (sl)), .int (nI (bd)), .int (nI (wr)), .ref hs, .int (nI (gr)), .int (la), .long (last)])), (ho, .inl (E.2 2, 1, .inr (.inl (vp_updL o 0 ((bI fo).toInt64)))))]) hA [0, 1, 2, 3, 4] rfl rfl (xRet_i) (by decide) (by decide) d_Q_count_18
abbrev rm_Q_count1_3 : Room := { frames := 3, cells := 0, slots := 0, locals := 64 }
set_option maxHeartbeats 4000000 in
set_option maxRecDepth 100000 in
theorem c_Q_count1_3 (l : Launch) (E : xE) (hx h0 h1 ht hw hz : Nat) (sp : Bool) (a0 n p : Nat) (f : Nat → Int32) (hs : Nat) (fo : Bool) (sl bd wr gr : Nat) (la : Int32) (last : Int64) (hn : n ≤ 2640) (ho : Nat) (o : Nat → Int64) : xC l E y_Q_count (.codeWith y_Q_count method_11_code 5 (some .int) [(0, 10, 13, 13)]) rm_Q_count1_3 [.ref hx, .int (nI 1), .int (nI 3), .ref ho] [(hx, .inr (4, [.ref h0, .ref h1, .ref ht, .ref hw, .ref hz, .int (bI sp)])), (h1, .inr (0, [.ref a0, .int (nI (n)), .int (nI (p))])), (a0, .inl (E.2 0, 2640, .inl (f))), (hw, .inr (3, [.ref h1, .int (bI fo), .int (nI (sl)), .int (nI (bd)), .int (nI (wr)), .ref hs, .int (nI (gr)), .int (la), .long (last)])), (ho, .inl (E.2 2, 1, .inr (.inl (o))))] (xRet (some (.int (nI 0))) [(hx, .inr (4, [.ref h0, .ref h1, .ref ht, .ref hw, .ref hz, .int (bI sp)])), (h1, .inr (0, [.ref a0, .int (nI (n)), .int (nI (p))])), (a0, .inl (E.2 0, 2640, .inl (f))), (hw, .inr (3, [.ref h1, .int (bI fo), .int (nI (sl)), .int (nI (bd)), .int (nI (wr)), .ref hs, .int (nI (gr)), .int (la), .long (last)])), (ho, .inl (E.2 2, 1, .inr (.inl (vp_updL o 0 ((if fo then bcF la else nI gr).toInt64)))))]) := by
  refine x_ofH' (own := "LineCoderLaw") (mn := "count") (lv := [(0, .ref hx), (1, .int (nI 1)), (2, .int (nI 3)), (3, .ref ho)]) (plainFor_of_name (by decide)) rfl rfl (Nat.le_of_ble_eq_true rfl) rfl ?_
  intro p_ e_ s_ m_ ar_ be_ me_ c_ A_ hA hB
  refine x_aload_n 1 hB d_Q_count_0 rfl rfl ?_
  refine x_iconst (v := nI 0) 2 hB d_Q_count_1 rfl (by decide) ?_
  refine x_aload_n 3 hB d_Q_count_2 rfl rfl ?_
  refine x_iload_n 4 hB d_Q_count_3 rfl rfl ?_
  refine x_iload_n 5 hB d_Q_count_4 rfl rfl ?_
  refine x_callP (k' := 0) (n' := 0) (rest := [.int (nI 0), .ref ho]) (st' := [.int (if fo then bcF la else nI gr), .int (nI 0), .ref ho]) 8 hB (x_pfV (av := [.int (nI 1), .int (nI 3)]) (q0 := 0) hB w_556 xHd_code w_553 w_554 w_555 rfl rfl nm_X_count rfl d_Q_count_5) (c_X_count1_3 l E hx h0 h1 ht hw hz sp a0 n p f hs fo sl bd wr gr la last hn) w_556 xHd_code w_1 [0, 1, 2, 3] rfl rfl ⟨by decide, by decide⟩ ⟨by decide, by decide⟩ rfl rfl (Nat.le_of_ble_eq_true rfl) d_Q_count_5 rfl rfl ?_
  refine x_i2l (v := (if fo then bcF la else nI gr).toInt64) 9 hB d_Q_count_8 rfl (rfl) ?_
  refine x_last 10 hB 4 (ws' := [(hx, .inr (4, [.ref h0, .ref h1, .ref ht, .ref hw, .ref hz, .int (bI sp)])), (h1, .inr (0, [.ref a0, .int (nI (n)), .int (nI (p))])), (a0, .inl (E.2 0, 2640, .inl (f))), (hw, .inr (3, [.ref h1, .int (bI fo), .int (nI (sl)), .int (nI (bd)), .int (nI (wr)), .ref hs, .int (nI (gr)), .int (la), .long (last)])), (ho, .inl (E.2 2, 1, .inr (.inl (vp_updL o 0 ((if fo then bcF la else nI gr).toInt64)))))]) rfl (by omega) (by decide) (x' := (if fo then bcF la else nI gr).toInt64) (rfl) rfl d_Q_count_9 rfl ?_
  refine x_goto 17 hB d_Q_count_10 (by decide) ?_
  refine x_iconst (v := nI 0) 18 hB d_Q_count_17 rfl (by decide) ?_
  exact x_iret hB (w' := [(hx, .inr (4, [.ref h0, .ref h1, .ref ht, .ref hw, .ref hz, .int (bI sp)])), (h1, .inr (0, [.ref a0, .int (nI (n)), .int (nI (p))])), (a0, .inl (E.2 0, 2640, .inl (f))), (hw, .inr (3, [.ref h1, .int (bI fo), .int (nI (sl)), .int (nI (bd)), .int (nI (wr)), .ref hs, .int (nI (gr)), .int (la), .long (last)])), (ho, .inl (E.2 2, 1, .inr (.inl (vp_updL o 0 ((if fo then bcF la else nI gr).toInt64)))))]) hA [0, 1, 2, 3, 4] rfl rfl (xRet_i) (by decide) (by decide) d_Q_count_18
abbrev rm_Q_count1_4 : Room := { frames := 2, cells := 0, slots := 0, locals := 45 }
set_option maxHeartbeats 4000000 in
set_option maxRecDepth 100000 in
theorem c_Q_count1_4 (l : Launch) (E : xE) (hx h0 h1 ht hw hz : Nat) (sp : Bool) (a0 n p : Nat) (f : Nat → Int32) (hs : Nat) (fo : Bool) (sl bd wr gr : Nat) (la : Int32) (last : Int64) (hn : n ≤ 2640) (ho : Nat) (o : Nat → Int64) : xC l E y_Q_count (.codeWith y_Q_count method_11_code 5 (some .int) [(0, 10, 13, 13)]) rm_Q_count1_4 [.ref hx, .int (nI 1), .int (nI 4), .ref ho] [(hx, .inr (4, [.ref h0, .ref h1, .ref ht, .ref hw, .ref hz, .int (bI sp)])), (h1, .inr (0, [.ref a0, .int (nI (n)), .int (nI (p))])), (a0, .inl (E.2 0, 2640, .inl (f))), (hw, .inr (3, [.ref h1, .int (bI fo), .int (nI (sl)), .int (nI (bd)), .int (nI (wr)), .ref hs, .int (nI (gr)), .int (la), .long (last)])), (ho, .inl (E.2 2, 1, .inr (.inl (o))))] (xRet (some (.int (nI 0))) [(hx, .inr (4, [.ref h0, .ref h1, .ref ht, .ref hw, .ref hz, .int (bI sp)])), (h1, .inr (0, [.ref a0, .int (nI (n)), .int (nI (p))])), (a0, .inl (E.2 0, 2640, .inl (f))), (hw, .inr (3, [.ref h1, .int (bI fo), .int (nI (sl)), .int (nI (bd)), .int (nI (wr)), .ref hs, .int (nI (gr)), .int (la), .long (last)])), (ho, .inl (E.2 2, 1, .inr (.inl (vp_updL o 0 ((nI (sl)).toInt64)))))]) := by
  refine x_ofH' (own := "LineCoderLaw") (mn := "count") (lv := [(0, .ref hx), (1, .int (nI 1)), (2, .int (nI 4)), (3, .ref ho)]) (plainFor_of_name (by decide)) rfl rfl (Nat.le_of_ble_eq_true rfl) rfl ?_
  intro p_ e_ s_ m_ ar_ be_ me_ c_ A_ hA hB
  refine x_aload_n 1 hB d_Q_count_0 rfl rfl ?_
  refine x_iconst (v := nI 0) 2 hB d_Q_count_1 rfl (by decide) ?_
  refine x_aload_n 3 hB d_Q_count_2 rfl rfl ?_
  refine x_iload_n 4 hB d_Q_count_3 rfl rfl ?_
  refine x_iload_n 5 hB d_Q_count_4 rfl rfl ?_
  refine x_callP (k' := 0) (n' := 0) (rest := [.int (nI 0), .ref ho]) (st' := [.int (nI (sl)), .int (nI 0), .ref ho]) 8 hB (x_pfV (av := [.int (nI 1), .int (nI 4)]) (q0 := 0) hB w_556 xHd_code w_553 w_554 w_555 rfl rfl nm_X_count rfl d_Q_count_5) (c_X_count1_4 l E hx h0 h1 ht hw hz sp a0 n p f hs fo sl bd wr gr la last hn) w_556 xHd_code w_1 [0, 1, 2, 3] rfl rfl ⟨by decide, by decide⟩ ⟨by decide, by decide⟩ rfl rfl (Nat.le_of_ble_eq_true rfl) d_Q_count_5 rfl rfl ?_
  refine x_i2l (v := (nI (sl)).toInt64) 9 hB d_Q_count_8 rfl (rfl) ?_
  refine x_last 10 hB 4 (ws' := [(hx, .inr (4, [.ref h0, .ref h1, .ref ht, .ref hw, .ref hz, .int (bI sp)])), (h1, .inr (0, [.ref a0, .int (nI (n)), .int (nI (p))])), (a0, .inl (E.2 0, 2640, .inl (f))), (hw, .inr (3, [.ref h1, .int (bI fo), .int (nI (sl)), .int (nI (bd)), .int (nI (wr)), .ref hs, .int (nI (gr)), .int (la), .long (last)])), (ho, .inl (E.2 2, 1, .inr (.inl (vp_updL o 0 ((nI (sl)).toInt64)))))]) rfl (by omega) (by decide) (x' := (nI (sl)).toInt64) (rfl) rfl d_Q_count_9 rfl ?_
  refine x_goto 17 hB d_Q_count_10 (by decide) ?_
  refine x_iconst (v := nI 0) 18 hB d_Q_count_17 rfl (by decide) ?_
  exact x_iret hB (w' := [(hx, .inr (4, [.ref h0, .ref h1, .ref ht, .ref hw, .ref hz, .int (bI sp)])), (h1, .inr (0, [.ref a0, .int (nI (n)), .int (nI (p))])), (a0, .inl (E.2 0, 2640, .inl (f))), (hw, .inr (3, [.ref h1, .int (bI fo), .int (nI (sl)), .int (nI (bd)), .int (nI (wr)), .ref hs, .int (nI (gr)), .int (la), .long (last)])), (ho, .inl (E.2 2, 1, .inr (.inl (vp_updL o 0 ((nI (sl)).toInt64)))))]) hA [0, 1, 2, 3, 4] rfl rfl (xRet_i) (by decide) (by decide) d_Q_count_18
abbrev rm_Q_count1_5 : Room := { frames := 2, cells := 0, slots := 0, locals := 45 }
set_option maxHeartbeats 4000000 in
set_option maxRecDepth 100000 in
theorem c_Q_count1_5 (l : Launch) (E : xE) (hx h0 h1 ht hw hz : Nat) (sp : Bool) (a0 n p : Nat) (f : Nat → Int32) (hs : Nat) (fo : Bool) (sl bd wr gr : Nat) (la : Int32) (last : Int64) (hn : n ≤ 2640) (ho : Nat) (o : Nat → Int64) : xC l E y_Q_count (.codeWith y_Q_count method_11_code 5 (some .int) [(0, 10, 13, 13)]) rm_Q_count1_5 [.ref hx, .int (nI 1), .int (nI 5), .ref ho] [(hx, .inr (4, [.ref h0, .ref h1, .ref ht, .ref hw, .ref hz, .int (bI sp)])), (h1, .inr (0, [.ref a0, .int (nI (n)), .int (nI (p))])), (a0, .inl (E.2 0, 2640, .inl (f))), (hw, .inr (3, [.ref h1, .int (bI fo), .int (nI (sl)), .int (nI (bd)), .int (nI (wr)), .ref hs, .int (nI (gr)), .int (la), .long (last)])), (ho, .inl (E.2 2, 1, .inr (.inl (o))))] (xRet (some (.int (nI 0))) [(hx, .inr (4, [.ref h0, .ref h1, .ref ht, .ref hw, .ref hz, .int (bI sp)])), (h1, .inr (0, [.ref a0, .int (nI (n)), .int (nI (p))])), (a0, .inl (E.2 0, 2640, .inl (f))), (hw, .inr (3, [.ref h1, .int (bI fo), .int (nI (sl)), .int (nI (bd)), .int (nI (wr)), .ref hs, .int (nI (gr)), .int (la), .long (last)])), (ho, .inl (E.2 2, 1, .inr (.inl (vp_updL o 0 ((nI (bd)).toInt64)))))]) := by
  refine x_ofH' (own := "LineCoderLaw") (mn := "count") (lv := [(0, .ref hx), (1, .int (nI 1)), (2, .int (nI 5)), (3, .ref ho)]) (plainFor_of_name (by decide)) rfl rfl (Nat.le_of_ble_eq_true rfl) rfl ?_
  intro p_ e_ s_ m_ ar_ be_ me_ c_ A_ hA hB
  refine x_aload_n 1 hB d_Q_count_0 rfl rfl ?_
  refine x_iconst (v := nI 0) 2 hB d_Q_count_1 rfl (by decide) ?_
  refine x_aload_n 3 hB d_Q_count_2 rfl rfl ?_
  refine x_iload_n 4 hB d_Q_count_3 rfl rfl ?_
  refine x_iload_n 5 hB d_Q_count_4 rfl rfl ?_
  refine x_callP (k' := 0) (n' := 0) (rest := [.int (nI 0), .ref ho]) (st' := [.int (nI (bd)), .int (nI 0), .ref ho]) 8 hB (x_pfV (av := [.int (nI 1), .int (nI 5)]) (q0 := 0) hB w_556 xHd_code w_553 w_554 w_555 rfl rfl nm_X_count rfl d_Q_count_5) (c_X_count1_5 l E hx h0 h1 ht hw hz sp a0 n p f hs fo sl bd wr gr la last hn) w_556 xHd_code w_1 [0, 1, 2, 3] rfl rfl ⟨by decide, by decide⟩ ⟨by decide, by decide⟩ rfl rfl (Nat.le_of_ble_eq_true rfl) d_Q_count_5 rfl rfl ?_
  refine x_i2l (v := (nI (bd)).toInt64) 9 hB d_Q_count_8 rfl (rfl) ?_
  refine x_last 10 hB 4 (ws' := [(hx, .inr (4, [.ref h0, .ref h1, .ref ht, .ref hw, .ref hz, .int (bI sp)])), (h1, .inr (0, [.ref a0, .int (nI (n)), .int (nI (p))])), (a0, .inl (E.2 0, 2640, .inl (f))), (hw, .inr (3, [.ref h1, .int (bI fo), .int (nI (sl)), .int (nI (bd)), .int (nI (wr)), .ref hs, .int (nI (gr)), .int (la), .long (last)])), (ho, .inl (E.2 2, 1, .inr (.inl (vp_updL o 0 ((nI (bd)).toInt64)))))]) rfl (by omega) (by decide) (x' := (nI (bd)).toInt64) (rfl) rfl d_Q_count_9 rfl ?_
  refine x_goto 17 hB d_Q_count_10 (by decide) ?_
  refine x_iconst (v := nI 0) 18 hB d_Q_count_17 rfl (by decide) ?_
  exact x_iret hB (w' := [(hx, .inr (4, [.ref h0, .ref h1, .ref ht, .ref hw, .ref hz, .int (bI sp)])), (h1, .inr (0, [.ref a0, .int (nI (n)), .int (nI (p))])), (a0, .inl (E.2 0, 2640, .inl (f))), (hw, .inr (3, [.ref h1, .int (bI fo), .int (nI (sl)), .int (nI (bd)), .int (nI (wr)), .ref hs, .int (nI (gr)), .int (la), .long (last)])), (ho, .inl (E.2 2, 1, .inr (.inl (vp_updL o 0 ((nI (bd)).toInt64)))))]) hA [0, 1, 2, 3, 4] rfl rfl (xRet_i) (by decide) (by decide) d_Q_count_18
abbrev rm_Q_count1_6 : Room := { frames := 2, cells := 0, slots := 0, locals := 45 }
set_option maxHeartbeats 4000000 in
set_option maxRecDepth 100000 in
theorem c_Q_count1_6 (l : Launch) (E : xE) (hx h0 h1 ht hw hz : Nat) (sp : Bool) (a0 n p : Nat) (f : Nat → Int32) (hs : Nat) (fo : Bool) (sl bd wr gr : Nat) (la : Int32) (last : Int64) (hn : n ≤ 2640) (ho : Nat) (o : Nat → Int64) : xC l E y_Q_count (.codeWith y_Q_count method_11_code 5 (some .int) [(0, 10, 13, 13)]) rm_Q_count1_6 [.ref hx, .int (nI 1), .int (nI 6), .ref ho] [(hx, .inr (4, [.ref h0, .ref h1, .ref ht, .ref hw, .ref hz, .int (bI sp)])), (h1, .inr (0, [.ref a0, .int (nI (n)), .int (nI (p))])), (a0, .inl (E.2 0, 2640, .inl (f))), (hw, .inr (3, [.ref h1, .int (bI fo), .int (nI (sl)), .int (nI (bd)), .int (nI (wr)), .ref hs, .int (nI (gr)), .int (la), .long (last)])), (ho, .inl (E.2 2, 1, .inr (.inl (o))))] (xRet (some (.int (nI 0))) [(hx, .inr (4, [.ref h0, .ref h1, .ref ht, .ref hw, .ref hz, .int (bI sp)])), (h1, .inr (0, [.ref a0, .int (nI (n)), .int (nI (p))])), (a0, .inl (E.2 0, 2640, .inl (f))), (hw, .inr (3, [.ref h1, .int (bI fo), .int (nI (sl)), .int (nI (bd)), .int (nI (wr)), .ref hs, .int (nI (gr)), .int (la), .long (last)])), (ho, .inl (E.2 2, 1, .inr (.inl (vp_updL o 0 ((nI (wr)).toInt64)))))]) := by
  refine x_ofH' (own := "LineCoderLaw") (mn := "count") (lv := [(0, .ref hx), (1, .int (nI 1)), (2, .int (nI 6)), (3, .ref ho)]) (plainFor_of_name (by decide)) rfl rfl (Nat.le_of_ble_eq_true rfl) rfl ?_
  intro p_ e_ s_ m_ ar_ be_ me_ c_ A_ hA hB
  refine x_aload_n 1 hB d_Q_count_0 rfl rfl ?_
  refine x_iconst (v := nI 0) 2 hB d_Q_count_1 rfl (by decide) ?_
  refine x_aload_n 3 hB d_Q_count_2 rfl rfl ?_
  refine x_iload_n 4 hB d_Q_count_3 rfl rfl ?_
  refine x_iload_n 5 hB d_Q_count_4 rfl rfl ?_
  refine x_callP (k' := 0) (n' := 0) (rest := [.int (nI 0), .ref ho]) (st' := [.int (nI (wr)), .int (nI 0), .ref ho]) 8 hB (x_pfV (av := [.int (nI 1), .int (nI 6)]) (q0 := 0) hB w_556 xHd_code w_553 w_554 w_555 rfl rfl nm_X_count rfl d_Q_count_5) (c_X_count1_6 l E hx h0 h1 ht hw hz sp a0 n p f hs fo sl bd wr gr la last hn) w_556 xHd_code w_1 [0, 1, 2, 3] rfl rfl ⟨by decide, by decide⟩ ⟨by decide, by decide⟩ rfl rfl (Nat.le_of_ble_eq_true rfl) d_Q_count_5 rfl rfl ?_
  refine x_i2l (v := (nI (wr)).toInt64) 9 hB d_Q_count_8 rfl (rfl) ?_
  refine x_last 10 hB 4 (ws' := [(hx, .inr (4, [.ref h0, .ref h1, .ref ht, .ref hw, .ref hz, .int (bI sp)])), (h1, .inr (0, [.ref a0, .int (nI (n)), .int (nI (p))])), (a0, .inl (E.2 0, 2640, .inl (f))), (hw, .inr (3, [.ref h1, .int (bI fo), .int (nI (sl)), .int (nI (bd)), .int (nI (wr)), .ref hs, .int (nI (gr)), .int (la), .long (last)])), (ho, .inl (E.2 2, 1, .inr (.inl (vp_updL o 0 ((nI (wr)).toInt64)))))]) rfl (by omega) (by decide) (x' := (nI (wr)).toInt64) (rfl) rfl d_Q_count_9 rfl ?_
  refine x_goto 17 hB d_Q_count_10 (by decide) ?_
  refine x_iconst (v := nI 0) 18 hB d_Q_count_17 rfl (by decide) ?_
  exact x_iret hB (w' := [(hx, .inr (4, [.ref h0, .ref h1, .ref ht, .ref hw, .ref hz, .int (bI sp)])), (h1, .inr (0, [.ref a0, .int (nI (n)), .int (nI (p))])), (a0, .inl (E.2 0, 2640, .inl (f))), (hw, .inr (3, [.ref h1, .int (bI fo), .int (nI (sl)), .int (nI (bd)), .int (nI (wr)), .ref hs, .int (nI (gr)), .int (la), .long (last)])), (ho, .inl (E.2 2, 1, .inr (.inl (vp_updL o 0 ((nI (wr)).toInt64)))))]) hA [0, 1, 2, 3, 4] rfl rfl (xRet_i) (by decide) (by decide) d_Q_count_18
abbrev rm_Q_count1_7 : Room := { frames := 2, cells := 0, slots := 0, locals := 46 }
set_option maxHeartbeats 4000000 in
set_option maxRecDepth 100000 in
theorem c_Q_count1_7 (l : Launch) (E : xE) (hx h0 h1 ht hw hz : Nat) (sp : Bool) (a0 n p : Nat) (f : Nat → Int32) (hs : Nat) (fo : Bool) (sl bd wr gr : Nat) (la : Int32) (last : Int64) (hn : n ≤ 2640) (ho : Nat) (o : Nat → Int64) : xC l E y_Q_count (.codeWith y_Q_count method_11_code 5 (some .int) [(0, 10, 13, 13)]) rm_Q_count1_7 [.ref hx, .int (nI 1), .int (nI 7), .ref ho] [(hx, .inr (4, [.ref h0, .ref h1, .ref ht, .ref hw, .ref hz, .int (bI sp)])), (h1, .inr (0, [.ref a0, .int (nI (n)), .int (nI (p))])), (a0, .inl (E.2 0, 2640, .inl (f))), (hw, .inr (3, [.ref h1, .int (bI fo), .int (nI (sl)), .int (nI (bd)), .int (nI (wr)), .ref hs, .int (nI (gr)), .int (la), .long (last)])), (ho, .inl (E.2 2, 1, .inr (.inl (o))))] (xRet (some (.int (nI 0))) [(hx, .inr (4, [.ref h0, .ref h1, .ref ht, .ref hw, .ref hz, .int (bI sp)])), (h1, .inr (0, [.ref a0, .int (nI (n)), .int (nI (p))])), (a0, .inl (E.2 0, 2640, .inl (f))), (hw, .inr (3, [.ref h1, .int (bI fo), .int (nI (sl)), .int (nI (bd)), .int (nI (wr)), .ref hs, .int (nI (gr)), .int (la), .long (last)])), (ho, .inl (E.2 2, 1, .inr (.inl (vp_updL o 0 ((olF f n).toInt64)))))]) := by
  refine x_ofH' (own := "LineCoderLaw") (mn := "count") (lv := [(0, .ref hx), (1, .int (nI 1)), (2, .int (nI 7)), (3, .ref ho)]) (plainFor_of_name (by decide)) rfl rfl (Nat.le_of_ble_eq_true rfl) rfl ?_
  intro p_ e_ s_ m_ ar_ be_ me_ c_ A_ hA hB
  refine x_aload_n 1 hB d_Q_count_0 rfl rfl ?_
  refine x_iconst (v := nI 0) 2 hB d_Q_count_1 rfl (by decide) ?_
  refine x_aload_n 3 hB d_Q_count_2 rfl rfl ?_
  refine x_iload_n 4 hB d_Q_count_3 rfl rfl ?_
  refine x_iload_n 5 hB d_Q_count_4 rfl rfl ?_
  refine x_callP (k' := 0) (n' := 0) (rest := [.int (nI 0), .ref ho]) (st' := [.int (olF f n), .int (nI 0), .ref ho]) 8 hB (x_pfV (av := [.int (nI 1), .int (nI 7)]) (q0 := 0) hB w_556 xHd_code w_553 w_554 w_555 rfl rfl nm_X_count rfl d_Q_count_5) (c_X_count1_7 l E hx h0 h1 ht hw hz sp a0 n p f hs fo sl bd wr gr la last hn) w_556 xHd_code w_1 [0, 1, 2, 3] rfl rfl ⟨by decide, by decide⟩ ⟨by decide, by decide⟩ rfl rfl (Nat.le_of_ble_eq_true rfl) d_Q_count_5 rfl rfl ?_
  refine x_i2l (v := (olF f n).toInt64) 9 hB d_Q_count_8 rfl (rfl) ?_
  refine x_last 10 hB 4 (ws' := [(hx, .inr (4, [.ref h0, .ref h1, .ref ht, .ref hw, .ref hz, .int (bI sp)])), (h1, .inr (0, [.ref a0, .int (nI (n)), .int (nI (p))])), (a0, .inl (E.2 0, 2640, .inl (f))), (hw, .inr (3, [.ref h1, .int (bI fo), .int (nI (sl)), .int (nI (bd)), .int (nI (wr)), .ref hs, .int (nI (gr)), .int (la), .long (last)])), (ho, .inl (E.2 2, 1, .inr (.inl (vp_updL o 0 ((olF f n).toInt64)))))]) rfl (by omega) (by decide) (x' := (olF f n).toInt64) (rfl) rfl d_Q_count_9 rfl ?_
  refine x_goto 17 hB d_Q_count_10 (by decide) ?_
  refine x_iconst (v := nI 0) 18 hB d_Q_count_17 rfl (by decide) ?_
  exact x_iret hB (w' := [(hx, .inr (4, [.ref h0, .ref h1, .ref ht, .ref hw, .ref hz, .int (bI sp)])), (h1, .inr (0, [.ref a0, .int (nI (n)), .int (nI (p))])), (a0, .inl (E.2 0, 2640, .inl (f))), (hw, .inr (3, [.ref h1, .int (bI fo), .int (nI (sl)), .int (nI (bd)), .int (nI (wr)), .ref hs, .int (nI (gr)), .int (la), .long (last)])), (ho, .inl (E.2 2, 1, .inr (.inl (vp_updL o 0 ((olF f n).toInt64)))))]) hA [0, 1, 2, 3, 4] rfl rfl (xRet_i) (by decide) (by decide) d_Q_count_18
abbrev rm_Q_count1_8 : Room := { frames := 3, cells := 0, slots := 0, locals := 68 }
set_option maxHeartbeats 4000000 in
set_option maxRecDepth 100000 in
theorem c_Q_count1_8 (l : Launch) (E : xE) (hx h0 h1 ht hw hz : Nat) (sp : Bool) (a0 n p : Nat) (f : Nat → Int32) (hs : Nat) (fo : Bool) (sl bd wr gr : Nat) (la : Int32) (last : Int64) (hn : n ≤ 2640) (ho : Nat) (o : Nat → Int64) : xC l E y_Q_count (.codeWith y_Q_count method_11_code 5 (some .int) [(0, 10, 13, 13)]) rm_Q_count1_8 [.ref hx, .int (nI 1), .int (nI 8), .ref ho] [(hx, .inr (4, [.ref h0, .ref h1, .ref ht, .ref hw, .ref hz, .int (bI sp)])), (h1, .inr (0, [.ref a0, .int (nI (n)), .int (nI (p))])), (a0, .inl (E.2 0, 2640, .inl (f))), (hw, .inr (3, [.ref h1, .int (bI fo), .int (nI (sl)), .int (nI (bd)), .int (nI (wr)), .ref hs, .int (nI (gr)), .int (la), .long (last)])), (ho, .inl (E.2 2, 1, .inr (.inl (o))))] (xRet (some (.int (nI 0))) [(hx, .inr (4, [.ref h0, .ref h1, .ref ht, .ref hw, .ref hz, .int (bI sp)])), (h1, .inr (0, [.ref a0, .int (nI (n)), .int (nI (p))])), (a0, .inl (E.2 0, 2640, .inl (f))), (hw, .inr (3, [.ref h1, .int (bI fo), .int (nI (sl)), .int (nI (bd)), .int (nI (wr)), .ref hs, .int (nI (gr)), .int (la), .long (last)])), (ho, .inl (E.2 2, 1, .inr (.inl (vp_updL o 0 ((nI ((lrF f n).2)).toInt64)))))]) := by
  refine x_ofH' (own := "LineCoderLaw") (mn := "count") (lv := [(0, .ref hx), (1, .int (nI 1)), (2, .int (nI 8)), (3, .ref ho)]) (plainFor_of_name (by decide)) rfl rfl (Nat.le_of_ble_eq_true rfl) rfl ?_
  intro p_ e_ s_ m_ ar_ be_ me_ c_ A_ hA hB
  refine x_aload_n 1 hB d_Q_count_0 rfl rfl ?_
  refine x_iconst (v := nI 0) 2 hB d_Q_count_1 rfl (by decide) ?_
  refine x_aload_n 3 hB d_Q_count_2 rfl rfl ?_
  refine x_iload_n 4 hB d_Q_count_3 rfl rfl ?_
  refine x_iload_n 5 hB d_Q_count_4 rfl rfl ?_
  refine x_callP (k' := 0) (n' := 0) (rest := [.int (nI 0), .ref ho]) (st' := [.int (nI ((lrF f n).2)), .int (nI 0), .ref ho]) 8 hB (x_pfV (av := [.int (nI 1), .int (nI 8)]) (q0 := 0) hB w_556 xHd_code w_553 w_554 w_555 rfl rfl nm_X_count rfl d_Q_count_5) (c_X_count1_8 l E hx h0 h1 ht hw hz sp a0 n p f hs fo sl bd wr gr la last hn) w_556 xHd_code w_1 [0, 1, 2, 3] rfl rfl ⟨by decide, by decide⟩ ⟨by decide, by decide⟩ rfl rfl (Nat.le_of_ble_eq_true rfl) d_Q_count_5 rfl rfl ?_
  refine x_i2l (v := (nI ((lrF f n).2)).toInt64) 9 hB d_Q_count_8 rfl (rfl) ?_
  refine x_last 10 hB 4 (ws' := [(hx, .inr (4, [.ref h0, .ref h1, .ref ht, .ref hw, .ref hz, .int (bI sp)])), (h1, .inr (0, [.ref a0, .int (nI (n)), .int (nI (p))])), (a0, .inl (E.2 0, 2640, .inl (f))), (hw, .inr (3, [.ref h1, .int (bI fo), .int (nI (sl)), .int (nI (bd)), .int (nI (wr)), .ref hs, .int (nI (gr)), .int (la), .long (last)])), (ho, .inl (E.2 2, 1, .inr (.inl (vp_updL o 0 ((nI ((lrF f n).2)).toInt64)))))]) rfl (by omega) (by decide) (x' := (nI ((lrF f n).2)).toInt64) (rfl) rfl d_Q_count_9 rfl ?_
  refine x_goto 17 hB d_Q_count_10 (by decide) ?_
  refine x_iconst (v := nI 0) 18 hB d_Q_count_17 rfl (by decide) ?_
  exact x_iret hB (w' := [(hx, .inr (4, [.ref h0, .ref h1, .ref ht, .ref hw, .ref hz, .int (bI sp)])), (h1, .inr (0, [.ref a0, .int (nI (n)), .int (nI (p))])), (a0, .inl (E.2 0, 2640, .inl (f))), (hw, .inr (3, [.ref h1, .int (bI fo), .int (nI (sl)), .int (nI (bd)), .int (nI (wr)), .ref hs, .int (nI (gr)), .int (la), .long (last)])), (ho, .inl (E.2 2, 1, .inr (.inl (vp_updL o 0 ((nI ((lrF f n).2)).toInt64)))))]) hA [0, 1, 2, 3, 4] rfl rfl (xRet_i) (by decide) (by decide) d_Q_count_18
abbrev rm_Q_count1_b : Room := { frames := 7, cells := 1, slots := 6, locals := 107 }
set_option maxHeartbeats 4000000 in
set_option maxRecDepth 100000 in
theorem c_Q_count1_b (l : Launch) (E : xE) (hx h0 h1 ht hw hz : Nat) (sp : Bool) (hT : xNoTr l) (k : Int32) (hk : k < 0 ∨ nI 8 < k) (ho : Nat) (o : Nat → Int64) : xC l E y_Q_count (.codeWith y_Q_count method_11_code 5 (some .int) [(0, 10, 13, 13)]) rm_Q_count1_b [.ref hx, .int (nI 1), .int (k), .ref ho] [(hx, .inr (4, [.ref h0, .ref h1, .ref ht, .ref hw, .ref hz, .int (bI sp)])), (ho, .inl (E.2 2, 1, .inr (.inl (o))))] (xRet (some (.int (nI 1))) [(hx, .inr (4, [.ref h0, .ref h1, .ref ht, .ref hw, .ref hz, .int (bI sp)])), (ho, .inl (E.2 2, 1, .inr (.inl (o))))]) := by
  refine x_ofH' (own := "LineCoderLaw") (mn := "count") (lv := [(0, .ref hx), (1, .int (nI 1)), (2, .int (k)), (3, .ref ho)]) (plainFor_of_name (by decide)) rfl rfl (Nat.le_of_ble_eq_true rfl) rfl ?_
  intro p_ e_ s_ m_ ar_ be_ me_ c_ A_ hA hB
  refine x_aload_n 1 hB d_Q_count_0 rfl rfl ?_
  refine x_iconst (v := nI 0) 2 hB d_Q_count_1 rfl (by decide) ?_
  refine x_aload_n 3 hB d_Q_count_2 rfl rfl ?_
  refine x_iload_n 4 hB d_Q_count_3 rfl rfl ?_
  refine x_iload_n 5 hB d_Q_count_4 rfl rfl ?_
  refine x_callPT (k' := 1) (n' := 6) (rest := [.int (nI 0), .ref ho]) hB (x_pfV (av := [.int (nI 1), .int (k)]) (q0 := 0) hB w_556 xHd_code w_553 w_554 w_555 rfl rfl nm_X_count rfl d_Q_count_5) (c_X_count1_b l E hT hx h0 h1 ht hw hz sp k hk) w_556 xHd_code w_1 [0] rfl rfl ⟨by decide, by decide⟩ ⟨by decide, by decide⟩ rfl rfl (Nat.le_of_ble_eq_true rfl) d_Q_count_5 ?_
  refine x_catch1 hB w_343 ⟨by decide, by decide⟩ (by decide) (fun q_ => ?_)
  refine x_astore 15 hB d_Q_count_13 rfl (by decide) (lv' := [(4, .ref q_), (0, .ref hx), (1, .int (nI 1)), (2, .int (k)), (3, .ref ho)]) rfl ?_
  refine x_iconst (v := nI 1) 16 hB d_Q_count_15 rfl (by decide) ?_
  exact x_iret hB (w' := [(hx, .inr (4, [.ref h0, .ref h1, .ref ht, .ref hw, .ref hz, .int (bI sp)])), (ho, .inl (E.2 2, 1, .inr (.inl (o))))]) hA [0, 1] rfl rfl (xRet_i) (by decide) (by decide) d_Q_count_16
abbrev rm_Q_raw_s : Room := { frames := 8, cells := 1, slots := 6, locals := 128 }
set_option maxHeartbeats 4000000 in
set_option maxRecDepth 100000 in
theorem c_Q_raw_s (l : Launch) (E : xE) (hx h0 h1 ht hw hz : Nat) (sp : Bool) (hT : xNoTr l) (k : Int32) (hk0 : ¬ k = 0) (hk1 : ¬ k = 1) (x z : Int32) (ho : Nat) (o : Nat → Int64) : xC l E y_Q_raw (.codeWith y_Q_raw method_7_code 6 (some .int) [(0, 12, 15, 13), (0, 12, 19, 22)]) rm_Q_raw_s [.ref hx, .int (k), .int (x), .int (z), .ref ho] [(hx, .inr (4, [.ref h0, .ref h1, .ref ht, .ref hw, .ref hz, .int (bI sp)])), (ho, .inl (E.2 2, 1, .inr (.inl (o))))] (xRet (some (.int (nI 1))) [(hx, .inr (4, [.ref h0, .ref h1, .ref ht, .ref hw, .ref hz, .int (bI sp)])), (ho, .inl (E.2 2, 1, .inr (.inl (o))))]) := by
  refine x_ofH' (own := "LineCoderLaw") (mn := "raw") (lv := [(0, .ref hx), (1, .int (k)), (2, .int (x)), (3, .int (z)), (4, .ref ho)]) (plainFor_of_name (by decide)) rfl rfl (Nat.le_of_ble_eq_true rfl) rfl ?_
  intro p_ e_ s_ m_ ar_ be_ me_ c_ A_ hA hB
  refine x_aload 2 hB d_Q_raw_0 rfl rfl ?_
  refine x_iconst (v := nI 0) 3 hB d_Q_raw_2 rfl (by decide) ?_
  refine x_aload_n 4 hB d_Q_raw_3 rfl rfl ?_
  refine x_iload_n 5 hB d_Q_raw_4 rfl rfl ?_
  refine x_iload_n 6 hB d_Q_raw_5 rfl rfl ?_
  refine x_iload_n 7 hB d_Q_raw_6 rfl rfl ?_
  refine x_callPT (k' := 1) (n' := 6) (rest := [.int (nI 0), .ref ho]) hB (x_pfV (av := [.int (k), .int (x), .int (z)]) (q0 := 0) hB w_486 xHd_code w_483 w_484 w_485 rfl rfl nm_X_raw rfl d_Q_raw_7) (c_X_raw_s l E hT hx h0 h1 ht hw hz sp k hk0 hk1 x z) w_486 xHd_code w_1 [0] rfl rfl ⟨by decide, by decide⟩ ⟨by decide, by decide⟩ rfl rfl (Nat.le_of_ble_eq_true rfl) d_Q_raw_7 ?_
  refine x_catch1 hB w_343 ⟨by decide, by decide⟩ (by decide) (fun q_ => ?_)
  refine x_astore 17 hB d_Q_raw_15 rfl (by decide) (lv' := [(5, .ref q_), (0, .ref hx), (1, .int (k)), (2, .int (x)), (3, .int (z)), (4, .ref ho)]) rfl ?_
  refine x_iconst (v := nI 1) 18 hB d_Q_raw_17 rfl (by decide) ?_
  exact x_iret hB (w' := [(hx, .inr (4, [.ref h0, .ref h1, .ref ht, .ref hw, .ref hz, .int (bI sp)])), (ho, .inl (E.2 2, 1, .inr (.inl (o))))]) hA [0, 1] rfl rfl (xRet_i) (by decide) (by decide) d_Q_raw_18
abbrev rm_Q_bend_s : Room := { frames := 8, cells := 1, slots := 6, locals := 127 }
set_option maxHeartbeats 4000000 in
set_option maxRecDepth 100000 in
theorem c_Q_bend_s (l : Launch) (E : xE) (hx h0 h1 ht hw hz : Nat) (sp : Bool) (hT : xNoTr l) (k : Int32) (hk0 : ¬ k = 0) (hk1 : ¬ k = 1) (x : Int32) (ho : Nat) (o : Nat → Int64) : xC l E y_Q_bend (.codeWith y_Q_bend method_8_code 5 (some .int) [(0, 17, 20, 13), (0, 17, 24, 36)]) rm_Q_bend_s [.ref hx, .int (k), .int (x), .ref ho] [(hx, .inr (4, [.ref h0, .ref h1, .ref ht, .ref hw, .ref hz, .int (bI sp)])), (ho, .inl (E.2 2, 1, .inr (.inl (o))))] (xRet (some (.int (nI 1))) [(hx, .inr (4, [.ref h0, .ref h1, .ref ht, .ref hw, .ref hz, .int (bI sp)])), (ho, .inl (E.2 2, 1, .inr (.inl (o))))]) := by
  refine x_ofH' (own := "LineCoderLaw") (mn := "bend") (lv := [(0, .ref hx), (1, .int (k)), (2, .int (x)), (3, .ref ho)]) (plainFor_of_name (by decide)) rfl rfl (Nat.le_of_ble_eq_true rfl) rfl ?_
  intro p_ e_ s_ m_ ar_ be_ me_ c_ A_ hA hB
  refine x_aload_n 1 hB d_Q_bend_0 rfl rfl ?_
  refine x_iconst (v := nI 0) 2 hB d_Q_bend_1 rfl (by decide) ?_
  refine x_aload_n 3 hB d_Q_bend_2 rfl rfl ?_
  refine x_iload_n 4 hB d_Q_bend_3 rfl rfl ?_
  refine x_iload_n 5 hB d_Q_bend_4 rfl rfl ?_
  refine x_callPT (k' := 1) (n' := 6) (rest := [.int (nI 0), .ref ho]) hB (x_pfV (av := [.int (k), .int (x)]) (q0 := 0) hB w_500 xHd_code w_497 w_498 w_499 rfl rfl nm_X_bend rfl d_Q_bend_5) (c_X_bend_s l E hT hx h0 h1 ht hw hz sp k hk0 hk1 x) w_500 xHd_code w_1 [0] rfl rfl ⟨by decide, by decide⟩ ⟨by decide, by decide⟩ rfl rfl (Nat.le_of_ble_eq_true rfl) d_Q_bend_5 ?_
  refine x_catch1 hB w_343 ⟨by decide, by decide⟩ (by decide) (fun q_ => ?_)
  refine x_astore 22 hB d_Q_bend_20 rfl (by decide) (lv' := [(4, .ref q_), (0, .ref hx), (1, .int (k)), (2, .int (x)), (3, .ref ho)]) rfl ?_
  refine x_iconst (v := nI 1) 23 hB d_Q_bend_22 rfl (by decide) ?_
  exact x_iret hB (w' := [(hx, .inr (4, [.ref h0, .ref h1, .ref ht, .ref hw, .ref hz, .int (bI sp)])), (ho, .inl (E.2 2, 1, .inr (.inl (o))))]) hA [0, 1] rfl rfl (xRet_i) (by decide) (by decide) d_Q_bend_23
abbrev rm_Q_lose_s : Room := { frames := 8, cells := 1, slots := 6, locals := 128 }
set_option maxHeartbeats 4000000 in
set_option maxRecDepth 100000 in
theorem c_Q_lose_s (l : Launch) (E : xE) (hx h0 h1 ht hw hz : Nat) (sp : Bool) (hT : xNoTr l) (k : Int32) (hk0 : ¬ k = 0) (hk1 : ¬ k = 1) (x z : Int32) (ho : Nat) (o : Nat → Int64) : xC l E y_Q_lose (.codeWith y_Q_lose method_9_code 6 (some .int) [(0, 12, 15, 13)]) rm_Q_lose_s [.ref hx, .int (k), .int (x), .int (z), .ref ho] [(hx, .inr (4, [.ref h0, .ref h1, .ref ht, .ref hw, .ref hz, .int (bI sp)])), (ho, .inl (E.2 2, 1, .inr (.inl (o))))] (xRet (some (.int (nI 1))) [(hx, .inr (4, [.ref h0, .ref h1, .ref ht, .ref hw, .ref hz, .int (bI sp)])), (ho, .inl (E.2 2, 1, .inr (.inl (o))))]) := by
  refine x_ofH' (own := "LineCoderLaw") (mn := "lose") (lv := [(0, .ref hx), (1, .int (k)), (2, .int (x)), (3, .int (z)), (4, .ref ho)]) (plainFor_of_name (by decide)) rfl rfl (Nat.le_of_ble_eq_true rfl) rfl ?_
  intro p_ e_ s_ m_ ar_ be_ me_ c_ A_ hA hB
  refine x_aload 2 hB d_Q_lose_0 rfl rfl ?_
  refine x_iconst (v := nI 0) 3 hB d_Q_lose_2 rfl (by decide) ?_
  refine x_aload_n 4 hB d_Q_lose_3 rfl rfl ?_
  refine x_iload_n 5 hB d_Q_lose_4 rfl rfl ?_
  refine x_iload_n 6 hB d_Q_lose_5 rfl rfl ?_
  refine x_iload_n 7 hB d_Q_lose_6 rfl rfl ?_
  refine x_callPT (k' := 1) (n' := 6) (rest := [.int (nI 0), .ref ho]) hB (x_pfV (av := [.int (k), .int (x), .int (z)]) (q0 := 0) hB w_529 xHd_code w_526 w_527 w_528 rfl rfl nm_X_lose rfl d_Q_lose_7) (c_X_lose_s l E hT hx h0 h1 ht hw hz sp k hk0 hk1 x z) w_529 xHd_code w_1 [0] rfl rfl ⟨by decide, by decide⟩ ⟨by decide, by decide⟩ rfl rfl (Nat.le_of_ble_eq_true rfl) d_Q_lose_7 ?_
  refine x_catch1 hB w_343 ⟨by decide, by decide⟩ (by decide) (fun q_ => ?_)
  refine x_astore 17 hB d_Q_lose_15 rfl (by decide) (lv' := [(5, .ref q_), (0, .ref hx), (1, .int (k)), (2, .int (x)), (3, .int (z)), (4, .ref ho)]) rfl ?_
  refine x_iconst (v := nI 1) 18 hB d_Q_lose_17 rfl (by decide) ?_
  exact x_iret hB (w' := [(hx, .inr (4, [.ref h0, .ref h1, .ref ht, .ref hw, .ref hz, .int (bI sp)])), (ho, .inl (E.2 2, 1, .inr (.inl (o))))]) hA [0, 1] rfl rfl (xRet_i) (by decide) (by decide) d_Q_lose_18
abbrev rm_Q_bit_s : Room := { frames := 8, cells := 1, slots := 6, locals := 126 }
set_option maxHeartbeats 4000000 in
set_option maxRecDepth 100000 in
theorem c_Q_bit_s (l : Launch) (E : xE) (hx h0 h1 ht hw hz : Nat) (sp : Bool) (hT : xNoTr l) (k : Int32) (hk0 : ¬ k = 0) (hk1 : ¬ k = 1) (x : Int32) (ho : Nat) (o : Nat → Int64) : xC l E y_Q_bit (.codeWith y_Q_bit method_10_code 5 (some .int) [(0, 10, 13, 13)]) rm_Q_bit_s [.ref hx, .int (k), .int (x), .ref ho] [(hx, .inr (4, [.ref h0, .ref h1, .ref ht, .ref hw, .ref hz, .int (bI sp)])), (ho, .inl (E.2 2, 1, .inr (.inl (o))))] (xRet (some (.int (nI 1))) [(hx, .inr (4, [.ref h0, .ref h1, .ref ht, .ref hw, .ref hz, .int (bI sp)])), (ho, .inl (E.2 2, 1, .inr (.inl (o))))]) := by
  refine x_ofH' (own := "LineCoderLaw") (mn := "bit") (lv := [(0, .ref hx), (1, .int (k)), (2, .int (x)), (3, .ref ho)]) (plainFor_of_name (by decide)) rfl rfl (Nat.le_of_ble_eq_true rfl) rfl ?_
  intro p_ e_ s_ m_ ar_ be_ me_ c_ A_ hA hB
  refine x_aload_n 1 hB d_Q_bit_0 rfl rfl ?_
  refine x_iconst (v := nI 0) 2 hB d_Q_bit_1 rfl (by decide) ?_
  refine x_aload_n 3 hB d_Q_bit_2 rfl rfl ?_
  refine x_iload_n 4 hB d_Q_bit_3 rfl rfl ?_
  refine x_iload_n 5 hB d_Q_bit_4 rfl rfl ?_
  refine x_callPT (k' := 1) (n' := 6) (rest := [.int (nI 0), .ref ho]) hB (x_pfV (av := [.int (k), .int (x)]) (q0 := 0) hB w_549 xHd_code w_546 w_547 w_548 rfl rfl nm_X_bit rfl d_Q_bit_5) (c_X_bit_s l E hT hx h0 h1 ht hw hz sp k hk0 hk1 x) w_549 xHd_code w_1 [0] rfl rfl ⟨by decide, by decide⟩ ⟨by decide, by decide⟩ rfl rfl (Nat.le_of_ble_eq_true rfl) d_Q_bit_5 ?_
  refine x_catch1 hB w_343 ⟨by decide, by decide⟩ (by decide) (fun q_ => ?_)
  refine x_astore 15 hB d_Q_bit_13 rfl (by decide) (lv' := [(4, .ref q_), (0, .ref hx), (1, .int (k)), (2, .int (x)), (3, .ref ho)]) rfl ?_
  refine x_iconst (v := nI 1) 16 hB d_Q_bit_15 rfl (by decide) ?_
  exact x_iret hB (w' := [(hx, .inr (4, [.ref h0, .ref h1, .ref ht, .ref hw, .ref hz, .int (bI sp)])), (ho, .inl (E.2 2, 1, .inr (.inl (o))))]) hA [0, 1] rfl rfl (xRet_i) (by decide) (by decide) d_Q_bit_16
abbrev rm_Q_count_s : Room := { frames := 8, cells := 1, slots := 6, locals := 128 }
set_option maxHeartbeats 4000000 in
set_option maxRecDepth 100000 in
theorem c_Q_count_s (l : Launch) (E : xE) (hx h0 h1 ht hw hz : Nat) (sp : Bool) (hT : xNoTr l) (k : Int32) (hk0 : ¬ k = 0) (hk1 : ¬ k = 1) (x : Int32) (ho : Nat) (o : Nat → Int64) : xC l E y_Q_count (.codeWith y_Q_count method_11_code 5 (some .int) [(0, 10, 13, 13)]) rm_Q_count_s [.ref hx, .int (k), .int (x), .ref ho] [(hx, .inr (4, [.ref h0, .ref h1, .ref ht, .ref hw, .ref hz, .int (bI sp)])), (ho, .inl (E.2 2, 1, .inr (.inl (o))))] (xRet (some (.int (nI 1))) [(hx, .inr (4, [.ref h0, .ref h1, .ref ht, .ref hw, .ref hz, .int (bI sp)])), (ho, .inl (E.2 2, 1, .inr (.inl (o))))]) := by
  refine x_ofH' (own := "LineCoderLaw") (mn := "count") (lv := [(0, .ref hx), (1, .int (k)), (2, .int (x)), (3, .ref ho)]) (plainFor_of_name (by decide)) rfl rfl (Nat.le_of_ble_eq_true rfl) rfl ?_
  intro p_ e_ s_ m_ ar_ be_ me_ c_ A_ hA hB
  refine x_aload_n 1 hB d_Q_count_0 rfl rfl ?_
  refine x_iconst (v := nI 0) 2 hB d_Q_count_1 rfl (by decide) ?_
  refine x_aload_n 3 hB d_Q_count_2 rfl rfl ?_
  refine x_iload_n 4 hB d_Q_count_3 rfl rfl ?_
  refine x_iload_n 5 hB d_Q_count_4 rfl rfl ?_
  refine x_callPT (k' := 1) (n' := 6) (rest := [.int (nI 0), .ref ho]) hB (x_pfV (av := [.int (k), .int (x)]) (q0 := 0) hB w_556 xHd_code w_553 w_554 w_555 rfl rfl nm_X_count rfl d_Q_count_5) (c_X_count_s l E hT hx h0 h1 ht hw hz sp k hk0 hk1 x) w_556 xHd_code w_1 [0] rfl rfl ⟨by decide, by decide⟩ ⟨by decide, by decide⟩ rfl rfl (Nat.le_of_ble_eq_true rfl) d_Q_count_5 ?_
  refine x_catch1 hB w_343 ⟨by decide, by decide⟩ (by decide) (fun q_ => ?_)
  refine x_astore 15 hB d_Q_count_13 rfl (by decide) (lv' := [(4, .ref q_), (0, .ref hx), (1, .int (k)), (2, .int (x)), (3, .ref ho)]) rfl ?_
  refine x_iconst (v := nI 1) 16 hB d_Q_count_15 rfl (by decide) ?_
  exact x_iret hB (w' := [(hx, .inr (4, [.ref h0, .ref h1, .ref ht, .ref hw, .ref hz, .int (bI sp)])), (ho, .inl (E.2 2, 1, .inr (.inl (o))))]) hA [0, 1] rfl rfl (xRet_i) (by decide) (by decide) d_Q_count_16
