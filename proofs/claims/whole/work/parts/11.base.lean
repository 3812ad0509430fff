abbrev rm_S_turning : Room := { frames := 0, cells := 0, slots := 0, locals := 0 }
set_option maxHeartbeats 4000000 in
set_option maxRecDepth 100000 in
theorem c_S_turning (l : Launch) (E : xE) (hs : Nat) (w : Int64) : xCp l E y_S_turning (.code y_S_turning prog_4_method_5_code 1 (some .int)) rm_S_turning [.ref hs] [(hs, .inr (1, [.long (w)]))] (.inl (some (.int (turF w)))) := by
  refine x_ofP (own := "LineCoder$Stirrer") (mn := "turning") (lv := [(0, .ref hs)]) (plainFor_of_name (by decide)) rfl rfl (Nat.le_of_ble_eq_true rfl) rfl ?_
  intro p_ e_ s_ m_ ar_ be_ me_ c_ hB
  refine x_aload_n 1 hB d_S_turning_0 rfl rfl ?_
  refine x_get 4 hB 0 fg_S_11_1 rfl rfl d_S_turning_1 rfl ?_
  refine x_bipush (v := nI 38) 6 hB d_S_turning_4 rfl (by decide) ?_
  refine x_lushr (v := (w.toUInt64 >>> ((nI 38).toInt64.toUInt64 &&& Int64.toUInt64 63)).toInt64) 7 hB d_S_turning_6 rfl (rfl) ?_
  refine x_aload_n 8 hB d_S_turning_7 rfl rfl ?_
  refine x_get 11 hB 0 fg_S_11_1 rfl rfl d_S_turning_8 rfl ?_
  refine x_bipush (v := nI 57) 13 hB d_S_turning_11 rfl (by decide) ?_
  refine x_lushr (v := (w.toUInt64 >>> ((nI 57).toInt64.toUInt64 &&& Int64.toUInt64 63)).toInt64) 14 hB d_S_turning_13 rfl (rfl) ?_
  refine x_lxor 15 hB d_S_turning_14 rfl ?_
  refine x_l2i (v := (((w.toUInt64 >>> ((nI 38).toInt64.toUInt64 &&& Int64.toUInt64 63)).toInt64) ^^^ ((w.toUInt64 >>> ((nI 57).toInt64.toUInt64 &&& Int64.toUInt64 63)).toInt64)).toInt32) 16 hB d_S_turning_15 rfl (rfl) ?_
  refine x_iconst (v := nI 1) 17 hB d_S_turning_16 rfl (by decide) ?_
  refine x_iand 18 hB d_S_turning_17 rfl ?_
  refine x_top (v' := .int (turF w)) (congrArg Value.int (rfl)) ?_
  exact x_iretP hB (rfl) (by decide) (by decide) d_S_turning_18
abbrev rm_S_remember : Room := { frames := 0, cells := 0, slots := 0, locals := 0 }
set_option maxHeartbeats 4000000 in
set_option maxRecDepth 100000 in
theorem c_S_remember (l : Launch) (E : xE) (hs : Nat) (w : Int64) (b : Int32) : xC l E y_S_remember (.code y_S_remember prog_4_method_6_code 2 none) rm_S_remember [.ref hs, .int (b)] [(hs, .inr (1, [.long (w)]))] (xRet none [(hs, .inr (1, [.long (remF w b)]))]) := by
  refine x_of' (own := "LineCoder$Stirrer") (mn := "remember") (lv := [(0, .ref hs), (1, .int (b))]) (plainFor_of_name (by decide)) rfl rfl (Nat.le_of_ble_eq_true rfl) rfl ?_
  intro p_ e_ s_ m_ ar_ be_ me_ c_ A_ hA hB
  refine x_aload_n 1 hB d_S_remember_0 rfl rfl ?_
  refine x_aload_n 2 hB d_S_remember_1 rfl rfl ?_
  refine x_get 5 hB 0 fg_S_11_1 rfl rfl d_S_remember_2 rfl ?_
  refine x_iconst (v := nI 1) 6 hB d_S_remember_5 rfl (by decide) ?_
  refine x_lshl (v := w <<< ((nI 1).toInt64 &&& 63)) 7 hB d_S_remember_6 rfl (rfl) ?_
  refine x_iload_n 8 hB d_S_remember_7 rfl rfl ?_
  refine x_i2l (v := (b).toInt64) 9 hB d_S_remember_8 rfl (rfl) ?_
  refine x_lor 10 hB d_S_remember_9 rfl ?_
  refine x_top (v' := .long (remF w b)) (congrArg Value.long (rfl)) ?_
  refine x_put 13 hB 0 (ws' := [(hs, .inr (1, [.long (remF w b)]))]) fp_S_11_1 rfl (rfl) (rfl) (Nat.le_of_ble_eq_true rfl) rfl d_S_remember_10 rfl ?_
  exact x_vret hB (w' := [(hs, .inr (1, [.long (remF w b)]))]) hA [0] rfl rfl (xRet_i) (by decide) (by decide) d_S_remember_13
abbrev rm_S_stir : Room := { frames := 1, cells := 0, slots := 0, locals := 21 }
set_option maxHeartbeats 4000000 in
set_option maxRecDepth 100000 in
theorem c_S_stir (l : Launch) (E : xE) (hs : Nat) (w : Int64) (b : Int32) : xC l E y_S_stir (.code y_S_stir prog_4_method_3_code 3 (some .int)) rm_S_stir [.ref hs, .int (b)] [(hs, .inr (1, [.long (w)]))] (xRet (some (.int (b ^^^ turF w))) [(hs, .inr (1, [.long (remF w (b ^^^ turF w))]))]) := by
  refine x_of' (own := "LineCoder$Stirrer") (mn := "stir") (lv := [(0, .ref hs), (1, .int (b))]) (plainFor_of_name (by decide)) rfl rfl (Nat.le_of_ble_eq_true rfl) rfl ?_
  intro p_ e_ s_ m_ ar_ be_ me_ c_ A_ hA hB
  refine x_iload_n 1 hB d_S_stir_0 rfl rfl ?_
  refine x_aload_n 2 hB d_S_stir_1 rfl rfl ?_
  refine x_callP (k' := 0) (n' := 0) (rest := [.int (b)]) (st' := [.int (turF w), .int (b)]) 5 hB (x_pfV (av := []) (q0 := 0) hB w_279 xHd_code w_276 w_278 s_S_turning rfl rfl nm_S_turning rfl d_S_stir_2) (c_S_turning l E hs w) w_279 xHd_code w_6 [0] rfl rfl ⟨by decide, by decide⟩ ⟨by decide, by decide⟩ rfl rfl (Nat.le_of_ble_eq_true rfl) d_S_stir_2 rfl rfl ?_
  refine x_ixor 6 hB d_S_stir_5 rfl ?_
  refine x_top (v' := .int (b ^^^ turF w)) (congrArg Value.int (rfl)) ?_
  refine x_istore_n 7 hB d_S_stir_6 rfl (by decide) (lv' := [(2, .int (b ^^^ turF w)), (0, .ref hs), (1, .int (b))]) rfl ?_
  refine x_aload_n 8 hB d_S_stir_7 rfl rfl ?_
  refine x_iload_n 9 hB d_S_stir_8 rfl rfl ?_
  refine x_callD (k' := 0) (n' := 0) (rest := []) (wr := []) (ws' := [(hs, .inr (1, [.long (remF w (b ^^^ turF w))]))]) (st' := []) 12 hB (x_pfV (av := [.int (b ^^^ turF w)]) (q0 := 0) hB w_283 xHd_code w_280 w_282 s_S_remember rfl rfl nm_S_remember rfl d_S_stir_9) (c_S_remember l E hs w (b ^^^ turF w)) w_283 xHd_code w_6 [0] [] rfl rfl rfl rfl (by decide) ⟨by decide, by decide⟩ ⟨by decide, by decide⟩ rfl rfl (Nat.le_of_ble_eq_true rfl) d_S_stir_9 rfl rfl rfl ?_
  refine x_iload_n 13 hB d_S_stir_12 rfl rfl ?_
  exact x_iret hB (w' := [(hs, .inr (1, [.long (remF w (b ^^^ turF w))]))]) hA [0] rfl rfl (xRet_i) (by decide) (by decide) d_S_stir_13
abbrev rm_S_stirBack : Room := { frames := 1, cells := 0, slots := 0, locals := 21 }
set_option maxHeartbeats 4000000 in
set_option maxRecDepth 100000 in
theorem c_S_stirBack (l : Launch) (E : xE) (hs : Nat) (w : Int64) (b : Int32) : xC l E y_S_stirBack (.code y_S_stirBack prog_4_method_4_code 3 (some .int)) rm_S_stirBack [.ref hs, .int (b)] [(hs, .inr (1, [.long (w)]))] (xRet (some (.int (b ^^^ turF w))) [(hs, .inr (1, [.long (remF w b)]))]) := by
  refine x_of' (own := "LineCoder$Stirrer") (mn := "stirBack") (lv := [(0, .ref hs), (1, .int (b))]) (plainFor_of_name (by decide)) rfl rfl (Nat.le_of_ble_eq_true rfl) rfl ?_
  intro p_ e_ s_ m_ ar_ be_ me_ c_ A_ hA hB
  refine x_iload_n 1 hB d_S_stirBack_0 rfl rfl ?_
  refine x_aload_n 2 hB d_S_stirBack_1 rfl rfl ?_
  refine x_callP (k' := 0) (n' := 0) (rest := [.int (b)]) (st' := [.int (turF w), .int (b)]) 5 hB (x_pfV (av := []) (q0 := 0) hB w_279 xHd_code w_276 w_278 s_S_turning rfl rfl nm_S_turning rfl d_S_stirBack_2) (c_S_turning l E hs w) w_279 xHd_code w_6 [0] rfl rfl ⟨by decide, by decide⟩ ⟨by decide, by decide⟩ rfl rfl (Nat.le_of_ble_eq_true rfl) d_S_stirBack_2 rfl rfl ?_
  refine x_ixor 6 hB d_S_stirBack_5 rfl ?_
  refine x_top (v' := .int (b ^^^ turF w)) (congrArg Value.int (rfl)) ?_
  refine x_istore_n 7 hB d_S_stirBack_6 rfl (by decide) (lv' := [(2, .int (b ^^^ turF w)), (0, .ref hs), (1, .int (b))]) rfl ?_
  refine x_aload_n 8 hB d_S_stirBack_7 rfl rfl ?_
  refine x_iload_n 9 hB d_S_stirBack_8 rfl rfl ?_
  refine x_callD (k' := 0) (n' := 0) (rest := []) (wr := []) (ws' := [(hs, .inr (1, [.long (remF w b)]))]) (st' := []) 12 hB (x_pfV (av := [.int (b)]) (q0 := 0) hB w_283 xHd_code w_280 w_282 s_S_remember rfl rfl nm_S_remember rfl d_S_stirBack_9) (c_S_remember l E hs w b) w_283 xHd_code w_6 [0] [] rfl rfl rfl rfl (by decide) ⟨by decide, by decide⟩ ⟨by decide, by decide⟩ rfl rfl (Nat.le_of_ble_eq_true rfl) d_S_stirBack_9 rfl rfl rfl ?_
  refine x_iload_n 13 hB d_S_stirBack_12 rfl rfl ?_
  exact x_iret hB (w' := [(hs, .inr (1, [.long (remF w b)]))]) hA [0] rfl rfl (xRet_i) (by decide) (by decide) d_S_stirBack_13
abbrev rm_S_forget : Room := { frames := 0, cells := 0, slots := 0, locals := 0 }
set_option maxHeartbeats 4000000 in
set_option maxRecDepth 100000 in
theorem c_S_forget (l : Launch) (E : xE) (hs : Nat) (w : Int64) : xC l E y_S_forget (.code y_S_forget prog_4_method_2_code 1 none) rm_S_forget [.ref hs] [(hs, .inr (1, [.long (w)]))] (xRet none [(hs, .inr (1, [.long (-1)]))]) := by
  refine x_of' (own := "LineCoder$Stirrer") (mn := "forget") (lv := [(0, .ref hs)]) (plainFor_of_name (by decide)) rfl rfl (Nat.le_of_ble_eq_true rfl) rfl ?_
  intro p_ e_ s_ m_ ar_ be_ me_ c_ A_ hA hB
  refine x_aload_n 1 hB d_S_forget_0 rfl rfl ?_
  refine x_ldc2 4 hB d_S_forget_1 rfl w_106 ?_
  refine x_put 7 hB 0 (ws' := [(hs, .inr (1, [.long (-1)]))]) fp_S_11_1 rfl (rfl) (rfl) (Nat.le_of_ble_eq_true rfl) rfl d_S_forget_4 rfl ?_
  exact x_vret hB (w' := [(hs, .inr (1, [.long (-1)]))]) hA [0] rfl rfl (xRet_i) (by decide) (by decide) d_S_forget_7
abbrev rm_S_init : Room := { frames := 1, cells := 0, slots := 0, locals := 20 }
set_option maxHeartbeats 4000000 in
set_option maxRecDepth 100000 in
theorem c_S_init (l : Launch) (E : xE) (hs : Nat) : xC l E y_S_init (.code y_S_init prog_4_method_1_code 1 none) rm_S_init [.ref hs] [(hs, .inr (1, [.long 0]))] (xRet none [(hs, .inr (1, [.long (-1)]))]) := by
  refine x_of' (own := "LineCoder$Stirrer") (mn := "<init>") (lv := [(0, .ref hs)]) (plainFor_of_name (by decide)) rfl rfl (Nat.le_of_ble_eq_true rfl) rfl ?_
  intro p_ e_ s_ m_ ar_ be_ me_ c_ A_ hA hB
  refine x_aload_n 1 hB d_S_init_0 rfl rfl ?_
  refine x_objInit 4 hB w_105 w_24 w_25 d_S_init_1 rfl (by decide) (Nat.le_of_ble_eq_true rfl) ?_
  refine x_aload_n 5 hB d_S_init_4 rfl rfl ?_
  refine x_ldc2 8 hB d_S_init_5 rfl w_106 ?_
  refine x_put 11 hB 0 (ws' := [(hs, .inr (1, [.long (-1)]))]) fp_S_11_1 rfl (rfl) (rfl) (Nat.le_of_ble_eq_true rfl) rfl d_S_init_8 rfl ?_
  exact x_vret hB (w' := [(hs, .inr (1, [.long (-1)]))]) hA [0] rfl rfl (xRet_i) (by decide) (by decide) d_S_init_11
abbrev rm_R_init_T : Room := { frames := 1, cells := 0, slots := 0, locals := 20 }
set_option maxHeartbeats 4000000 in
set_option maxRecDepth 100000 in
theorem c_R_init_T (l : Launch) (E : xE) (hr h0 : Nat) : xC l E y_R_init (.code y_R_init prog_3_method_1_code 2 none) rm_R_init_T [.ref hr, .ref h0] [(hr, .inr (2, [.null, .int 0, .int 0, .int 0, .int 0, .int 0, .int 0, .int 0, .int 0]))] (xRet none [(hr, .inr (2, [.ref h0, .int (nI 0), .int (nI 0), .int (nI 0), .int (nI 0), .int 0, .int 0, .int 0, .int 0]))]) := by
  refine x_of' (own := "LineCoder$Receiver") (mn := "<init>") (lv := [(0, .ref hr), (1, .ref h0)]) (plainFor_of_name (by decide)) rfl rfl (Nat.le_of_ble_eq_true rfl) rfl ?_
  intro p_ e_ s_ m_ ar_ be_ me_ c_ A_ hA hB
  refine x_aload_n 1 hB d_R_init_0 rfl rfl ?_
  refine x_objInit 4 hB w_51 w_24 w_25 d_R_init_1 rfl (by decide) (Nat.le_of_ble_eq_true rfl) ?_
  refine x_aload_n 5 hB d_R_init_4 rfl rfl ?_
  refine x_aload_n 6 hB d_R_init_5 rfl rfl ?_
  refine x_putF 9 hB 0 (ws' := [(hr, .inr (2, [.ref h0, .int 0, .int 0, .int 0, .int 0, .int 0, .int 0, .int 0, .int 0]))]) fp_R_9_2 rfl (rfl) (rfl) (Nat.le_of_ble_eq_true rfl) rfl d_R_init_6 rfl ?_
  refine x_aload_n 10 hB d_R_init_9 rfl rfl ?_
  refine x_iconst (v := nI 0) 11 hB d_R_init_10 rfl (by decide) ?_
  refine x_put 14 hB 0 (ws' := [(hr, .inr (2, [.ref h0, .int (nI 0), .int 0, .int 0, .int 0, .int 0, .int 0, .int 0, .int 0]))]) fp_R_15_2 rfl (rfl) (rfl) (Nat.le_of_ble_eq_true rfl) rfl d_R_init_11 rfl ?_
  refine x_aload_n 15 hB d_R_init_14 rfl rfl ?_
  refine x_iconst (v := nI 0) 16 hB d_R_init_15 rfl (by decide) ?_
  refine x_put 19 hB 0 (ws' := [(hr, .inr (2, [.ref h0, .int (nI 0), .int (nI 0), .int 0, .int 0, .int 0, .int 0, .int 0, .int 0]))]) fp_R_19_2 rfl (rfl) (rfl) (Nat.le_of_ble_eq_true rfl) rfl d_R_init_16 rfl ?_
  refine x_aload_n 20 hB d_R_init_19 rfl rfl ?_
  refine x_iconst (v := nI 0) 21 hB d_R_init_20 rfl (by decide) ?_
  refine x_put 24 hB 0 (ws' := [(hr, .inr (2, [.ref h0, .int (nI 0), .int (nI 0), .int (nI 0), .int 0, .int 0, .int 0, .int 0, .int 0]))]) fp_R_23_2 rfl (rfl) (rfl) (Nat.le_of_ble_eq_true rfl) rfl d_R_init_21 rfl ?_
  refine x_aload_n 25 hB d_R_init_24 rfl rfl ?_
  refine x_iconst (v := nI 0) 26 hB d_R_init_25 rfl (by decide) ?_
  refine x_put 29 hB 0 (ws' := [(hr, .inr (2, [.ref h0, .int (nI 0), .int (nI 0), .int (nI 0), .int (nI 0), .int 0, .int 0, .int 0, .int 0]))]) fp_R_26_2 rfl (rfl) (rfl) (Nat.le_of_ble_eq_true rfl) rfl d_R_init_26 rfl ?_
  exact x_vret hB (w' := [(hr, .inr (2, [.ref h0, .int (nI 0), .int (nI 0), .int (nI 0), .int (nI 0), .int 0, .int 0, .int 0, .int 0]))]) hA [0] rfl rfl (xRet_i) (by decide) (by decide) d_R_init_29
abbrev rm_R_isFollowing_T : Room := { frames := 0, cells := 0, slots := 0, locals := 0 }
set_option maxHeartbeats 4000000 in
set_option maxRecDepth 100000 in
theorem c_R_isFollowing_T (l : Launch) (E : xE) (hr h0 : Nat) (fo plus first : Bool) (sl bd wr mk rw : Nat) : xCp l E y_R_isFollowing (.code y_R_isFollowing prog_3_method_3_code 1 (some .boolean)) rm_R_isFollowing_T [.ref hr] [(hr, .inr (2, [.ref h0, .int (bI fo), .int (nI (sl)), .int (nI (bd)), .int (nI (wr)), .int (bI plus), .int (bI first), .int (nI (mk)), .int (nI (rw))]))] (.inl (some (.int (bI fo)))) := by
  refine x_ofP (own := "LineCoder$Receiver") (mn := "isFollowing") (lv := [(0, .ref hr)]) (plainFor_of_name (by decide)) rfl rfl (Nat.le_of_ble_eq_true rfl) rfl ?_
  intro p_ e_ s_ m_ ar_ be_ me_ c_ hB
  refine x_aload_n 1 hB d_R_isFollowing_0 rfl rfl ?_
  refine x_get 4 hB 0 fg_R_15_2 rfl rfl d_R_isFollowing_1 rfl ?_
  exact x_zretP hB (by cases fo <;> rfl) (rfl) (by decide) (by decide) d_R_isFollowing_4
abbrev rm_R_slips_T : Room := { frames := 0, cells := 0, slots := 0, locals := 0 }
set_option maxHeartbeats 4000000 in
set_option maxRecDepth 100000 in
theorem c_R_slips_T (l : Launch) (E : xE) (hr h0 : Nat) (fo plus first : Bool) (sl bd wr mk rw : Nat) : xCp l E y_R_slips (.code y_R_slips prog_3_method_4_code 1 (some .int)) rm_R_slips_T [.ref hr] [(hr, .inr (2, [.ref h0, .int (bI fo), .int (nI (sl)), .int (nI (bd)), .int (nI (wr)), .int (bI plus), .int (bI first), .int (nI (mk)), .int (nI (rw))]))] (.inl (some (.int (nI (sl))))) := by
  refine x_ofP (own := "LineCoder$Receiver") (mn := "slips") (lv := [(0, .ref hr)]) (plainFor_of_name (by decide)) rfl rfl (Nat.le_of_ble_eq_true rfl) rfl ?_
  intro p_ e_ s_ m_ ar_ be_ me_ c_ hB
  refine x_aload_n 1 hB d_R_slips_0 rfl rfl ?_
  refine x_get 4 hB 0 fg_R_19_2 rfl rfl d_R_slips_1 rfl ?_
  exact x_iretP hB (rfl) (by decide) (by decide) d_R_slips_4
abbrev rm_R_bads_T : Room := { frames := 0, cells := 0, slots := 0, locals := 0 }
set_option maxHeartbeats 4000000 in
set_option maxRecDepth 100000 in
theorem c_R_bads_T (l : Launch) (E : xE) (hr h0 : Nat) (fo plus first : Bool) (sl bd wr mk rw : Nat) : xCp l E y_R_bads (.code y_R_bads prog_3_method_5_code 1 (some .int)) rm_R_bads_T [.ref hr] [(hr, .inr (2, [.ref h0, .int (bI fo), .int (nI (sl)), .int (nI (bd)), .int (nI (wr)), .int (bI plus), .int (bI first), .int (nI (mk)), .int (nI (rw))]))] (.inl (some (.int (nI (bd))))) := by
  refine x_ofP (own := "LineCoder$Receiver") (mn := "bads") (lv := [(0, .ref hr)]) (plainFor_of_name (by decide)) rfl rfl (Nat.le_of_ble_eq_true rfl) rfl ?_
  intro p_ e_ s_ m_ ar_ be_ me_ c_ hB
  refine x_aload_n 1 hB d_R_bads_0 rfl rfl ?_
  refine x_get 4 hB 0 fg_R_23_2 rfl rfl d_R_bads_1 rfl ?_
  exact x_iretP hB (rfl) (by decide) (by decide) d_R_bads_4
abbrev rm_R_wrongs_T : Room := { frames := 0, cells := 0, slots := 0, locals := 0 }
set_option maxHeartbeats 4000000 in
set_option maxRecDepth 100000 in
theorem c_R_wrongs_T (l : Launch) (E : xE) (hr h0 : Nat) (fo plus first : Bool) (sl bd wr mk rw : Nat) : xCp l E y_R_wrongs (.code y_R_wrongs prog_3_method_6_code 1 (some .int)) rm_R_wrongs_T [.ref hr] [(hr, .inr (2, [.ref h0, .int (bI fo), .int (nI (sl)), .int (nI (bd)), .int (nI (wr)), .int (bI plus), .int (bI first), .int (nI (mk)), .int (nI (rw))]))] (.inl (some (.int (nI (wr))))) := by
  refine x_ofP (own := "LineCoder$Receiver") (mn := "wrongs") (lv := [(0, .ref hr)]) (plainFor_of_name (by decide)) rfl rfl (Nat.le_of_ble_eq_true rfl) rfl ?_
  intro p_ e_ s_ m_ ar_ be_ me_ c_ hB
  refine x_aload_n 1 hB d_R_wrongs_0 rfl rfl ?_
  refine x_get 4 hB 0 fg_R_26_2 rfl rfl d_R_wrongs_1 rfl ?_
  exact x_iretP hB (rfl) (by decide) (by decide) d_R_wrongs_4
abbrev rm_R_countAnew_T : Room := { frames := 0, cells := 0, slots := 0, locals := 0 }
set_option maxHeartbeats 4000000 in
set_option maxRecDepth 100000 in
theorem c_R_countAnew_T (l : Launch) (E : xE) (hr h0 : Nat) (fo plus first : Bool) (sl bd wr mk rw : Nat) : xC l E y_R_countAnew (.code y_R_countAnew prog_3_method_7_code 1 none) rm_R_countAnew_T [.ref hr] [(hr, .inr (2, [.ref h0, .int (bI fo), .int (nI (sl)), .int (nI (bd)), .int (nI (wr)), .int (bI plus), .int (bI first), .int (nI (mk)), .int (nI (rw))]))] (xRet none [(hr, .inr (2, [.ref h0, .int (nI 0), .int (nI 0), .int (nI 0), .int (nI 0), .int (bI plus), .int (bI first), .int (nI (mk)), .int (nI (rw))]))]) := by
  refine x_of' (own := "LineCoder$Receiver") (mn := "countAnew") (lv := [(0, .ref hr)]) (plainFor_of_name (by decide)) rfl rfl (Nat.le_of_ble_eq_true rfl) rfl ?_
  intro p_ e_ s_ m_ ar_ be_ me_ c_ A_ hA hB
  refine x_aload_n 1 hB d_R_countAnew_0 rfl rfl ?_
  refine x_iconst (v := nI 0) 2 hB d_R_countAnew_1 rfl (by decide) ?_
  refine x_put 5 hB 0 (ws' := [(hr, .inr (2, [.ref h0, .int (nI 0), .int (nI (sl)), .int (nI (bd)), .int (nI (wr)), .int (bI plus), .int (bI first), .int (nI (mk)), .int (nI (rw))]))]) fp_R_15_2 rfl (rfl) (rfl) (Nat.le_of_ble_eq_true rfl) rfl d_R_countAnew_2 rfl ?_
  refine x_aload_n 6 hB d_R_countAnew_5 rfl rfl ?_
  refine x_iconst (v := nI 0) 7 hB d_R_countAnew_6 rfl (by decide) ?_
  refine x_put 10 hB 0 (ws' := [(hr, .inr (2, [.ref h0, .int (nI 0), .int (nI 0), .int (nI (bd)), .int (nI (wr)), .int (bI plus), .int (bI first), .int (nI (mk)), .int (nI (rw))]))]) fp_R_19_2 rfl (rfl) (rfl) (Nat.le_of_ble_eq_true rfl) rfl d_R_countAnew_7 rfl ?_
  refine x_aload_n 11 hB d_R_countAnew_10 rfl rfl ?_
  refine x_iconst (v := nI 0) 12 hB d_R_countAnew_11 rfl (by decide) ?_
  refine x_put 15 hB 0 (ws' := [(hr, .inr (2, [.ref h0, .int (nI 0), .int (nI 0), .int (nI 0), .int (nI (wr)), .int (bI plus), .int (bI first), .int (nI (mk)), .int (nI (rw))]))]) fp_R_23_2 rfl (rfl) (rfl) (Nat.le_of_ble_eq_true rfl) rfl d_R_countAnew_12 rfl ?_
  refine x_aload_n 16 hB d_R_countAnew_15 rfl rfl ?_
  refine x_iconst (v := nI 0) 17 hB d_R_countAnew_16 rfl (by decide) ?_
  refine x_put 20 hB 0 (ws' := [(hr, .inr (2, [.ref h0, .int (nI 0), .int (nI 0), .int (nI 0), .int (nI 0), .int (bI plus), .int (bI first), .int (nI (mk)), .int (nI (rw))]))]) fp_R_26_2 rfl (rfl) (rfl) (Nat.le_of_ble_eq_true rfl) rfl d_R_countAnew_17 rfl ?_
  exact x_vret hB (w' := [(hr, .inr (2, [.ref h0, .int (nI 0), .int (nI 0), .int (nI 0), .int (nI 0), .int (bI plus), .int (bI first), .int (nI (mk)), .int (nI (rw))]))]) hA [0] rfl rfl (xRet_i) (by decide) (by decide) d_R_countAnew_20
abbrev rm_R_slip_T : Room := { frames := 2, cells := 0, slots := 0, locals := 42 }
set_option maxHeartbeats 4000000 in
set_option maxRecDepth 100000 in
theorem c_R_slip_T (l : Launch) (E : xE) (hr h0 : Nat) (fo plus first : Bool) (sl bd wr mk rw : Nat) (a0 n p : Nat) (hp : p + 1 ≤ n) (hn : n ≤ 2640) : xC l E y_R_slip (.code y_R_slip prog_3_method_8_code 1 (some .int)) rm_R_slip_T [.ref hr] [(hr, .inr (2, [.ref h0, .int (bI fo), .int (nI (sl)), .int (nI (bd)), .int (nI (wr)), .int (bI plus), .int (bI first), .int (nI (mk)), .int (nI (rw))])), (h0, .inr (0, [.ref a0, .int (nI (n)), .int (nI (p))]))] (xRet (some (.int (-3))) [(hr, .inr (2, [.ref h0, .int (bI fo), .int (nI (sl + 1)), .int (nI (bd)), .int (nI (wr)), .int (bI plus), .int (bI first), .int (nI (mk)), .int (nI (rw))])), (h0, .inr (0, [.ref a0, .int (nI (n)), .int (nI (p + 1))]))]) := by
  refine x_of' (own := "LineCoder$Receiver") (mn := "slip") (lv := [(0, .ref hr)]) (plainFor_of_name (by decide)) rfl rfl (Nat.le_of_ble_eq_true rfl) rfl ?_
  intro p_ e_ s_ m_ ar_ be_ me_ c_ A_ hA hB
  refine x_aload_n 1 hB d_R_slip_0 rfl rfl ?_
  refine x_get 4 hB 0 fg_R_9_2 rfl rfl d_R_slip_1 rfl ?_
  refine x_iconst (v := nI 1) 5 hB d_R_slip_4 rfl (by decide) ?_
  refine x_callD (k' := 0) (n' := 0) (rest := []) (wr := [(hr, .inr (2, [.ref h0, .int (bI fo), .int (nI (sl)), .int (nI (bd)), .int (nI (wr)), .int (bI plus), .int (bI first), .int (nI (mk)), .int (nI (rw))]))]) (ws' := [(hr, .inr (2, [.ref h0, .int (bI fo), .int (nI (sl)), .int (nI (bd)), .int (nI (wr)), .int (bI plus), .int (bI first), .int (nI (mk)), .int (nI (rw))])), (h0, .inr (0, [.ref a0, .int (nI (n)), .int (nI (p + 1))]))]) (st' := []) 8 hB (x_pfV (av := [.int (nI 1)]) (q0 := 1) hB w_187 xHd_code w_184 w_185 w_186 rfl rfl nm_L_advance rfl d_R_slip_5) (c_L_advance l E h0 a0 n p 1 hp hn) w_187 xHd_code w_2 [1] [0] rfl rfl rfl rfl (by decide) ⟨by decide, by decide⟩ ⟨by decide, by decide⟩ rfl rfl (Nat.le_of_ble_eq_true rfl) d_R_slip_5 rfl rfl rfl ?_
  refine x_aload_n 9 hB d_R_slip_8 rfl rfl ?_
  refine x_dup 10 hB d_R_slip_9 rfl rfl ?_
  refine x_get 13 hB 0 fg_R_19_2 rfl rfl d_R_slip_10 rfl ?_
  refine x_iconst (v := nI 1) 14 hB d_R_slip_13 rfl (by decide) ?_
  refine x_iadd 15 hB d_R_slip_14 rfl ?_
  refine x_top (v' := .int (nI (sl + 1))) (congrArg Value.int (nI_add sl 1)) ?_
  refine x_put 18 hB 0 (ws' := [(hr, .inr (2, [.ref h0, .int (bI fo), .int (nI (sl + 1)), .int (nI (bd)), .int (nI (wr)), .int (bI plus), .int (bI first), .int (nI (mk)), .int (nI (rw))])), (h0, .inr (0, [.ref a0, .int (nI (n)), .int (nI (p + 1))]))]) fp_R_19_2 rfl (rfl) (rfl) (Nat.le_of_ble_eq_true rfl) rfl d_R_slip_15 rfl ?_
  refine x_bipush (v := (-3 : Int32)) 20 hB d_R_slip_18 rfl (by decide) ?_
  exact x_iret hB (w' := [(hr, .inr (2, [.ref h0, .int (bI fo), .int (nI (sl + 1)), .int (nI (bd)), .int (nI (wr)), .int (bI plus), .int (bI first), .int (nI (mk)), .int (nI (rw))])), (h0, .inr (0, [.ref a0, .int (nI (n)), .int (nI (p + 1))]))]) hA [0, 1] rfl rfl (xRet_i) (by decide) (by decide) d_R_slip_20
abbrev rm_R_init_W : Room := { frames := 1, cells := 0, slots := 0, locals := 20 }
set_option maxHeartbeats 4000000 in
set_option maxRecDepth 100000 in
theorem c_R_init_W (l : Launch) (E : xE) (hr h0 : Nat) : xC l E y_R_init (.code y_R_init prog_3_method_1_code 2 none) rm_R_init_W [.ref hr, .ref h0] [(hr, .inr (3, [.null, .int 0, .int 0, .int 0, .int 0, .null, .int 0, .int 0, .long 0]))] (xRet none [(hr, .inr (3, [.ref h0, .int (nI 0), .int (nI 0), .int (nI 0), .int (nI 0), .null, .int 0, .int 0, .long 0]))]) := by
  refine x_of' (own := "LineCoder$Receiver") (mn := "<init>") (lv := [(0, .ref hr), (1, .ref h0)]) (plainFor_of_name (by decide)) rfl rfl (Nat.le_of_ble_eq_true rfl) rfl ?_
  intro p_ e_ s_ m_ ar_ be_ me_ c_ A_ hA hB
  refine x_aload_n 1 hB d_R_init_0 rfl rfl ?_
  refine x_objInit 4 hB w_51 w_24 w_25 d_R_init_1 rfl (by decide) (Nat.le_of_ble_eq_true rfl) ?_
  refine x_aload_n 5 hB d_R_init_4 rfl rfl ?_
  refine x_aload_n 6 hB d_R_init_5 rfl rfl ?_
  refine x_putF 9 hB 0 (ws' := [(hr, .inr (3, [.ref h0, .int 0, .int 0, .int 0, .int 0, .null, .int 0, .int 0, .long 0]))]) fp_R_9_3 rfl (rfl) (rfl) (Nat.le_of_ble_eq_true rfl) rfl d_R_init_6 rfl ?_
  refine x_aload_n 10 hB d_R_init_9 rfl rfl ?_
  refine x_iconst (v := nI 0) 11 hB d_R_init_10 rfl (by decide) ?_
  refine x_put 14 hB 0 (ws' := [(hr, .inr (3, [.ref h0, .int (nI 0), .int 0, .int 0, .int 0, .null, .int 0, .int 0, .long 0]))]) fp_R_15_3 rfl (rfl) (rfl) (Nat.le_of_ble_eq_true rfl) rfl d_R_init_11 rfl ?_
  refine x_aload_n 15 hB d_R_init_14 rfl rfl ?_
  refine x_iconst (v := nI 0) 16 hB d_R_init_15 rfl (by decide) ?_
  refine x_put 19 hB 0 (ws' := [(hr, .inr (3, [.ref h0, .int (nI 0), .int (nI 0), .int 0, .int 0, .null, .int 0, .int 0, .long 0]))]) fp_R_19_3 rfl (rfl) (rfl) (Nat.le_of_ble_eq_true rfl) rfl d_R_init_16 rfl ?_
  refine x_aload_n 20 hB d_R_init_19 rfl rfl ?_
  refine x_iconst (v := nI 0) 21 hB d_R_init_20 rfl (by decide) ?_
  refine x_put 24 hB 0 (ws' := [(hr, .inr (3, [.ref h0, .int (nI 0), .int (nI 0), .int (nI 0), .int 0, .null, .int 0, .int 0, .long 0]))]) fp_R_23_3 rfl (rfl) (rfl) (Nat.le_of_ble_eq_true rfl) rfl d_R_init_21 rfl ?_
  refine x_aload_n 25 hB d_R_init_24 rfl rfl ?_
  refine x_iconst (v := nI 0) 26 hB d_R_init_25 rfl (by decide) ?_
  refine x_put 29 hB 0 (ws' := [(hr, .inr (3, [.ref h0, .int (nI 0), .int (nI 0), .int (nI 0), .int (nI 0), .null, .int 0, .int 0, .long 0]))]) fp_R_26_3 rfl (rfl) (rfl) (Nat.le_of_ble_eq_true rfl) rfl d_R_init_26 rfl ?_
  exact x_vret hB (w' := [(hr, .inr (3, [.ref h0, .int (nI 0), .int (nI 0), .int (nI 0), .int (nI 0), .null, .int 0, .int 0, .long 0]))]) hA [0] rfl rfl (xRet_i) (by decide) (by decide) d_R_init_29
abbrev rm_R_isFollowing_W : Room := { frames := 0, cells := 0, slots := 0, locals := 0 }
set_option maxHeartbeats 4000000 in
set_option maxRecDepth 100000 in
theorem c_R_isFollowing_W (l : Launch) (E : xE) (hr h0 hs : Nat) (fo : Bool) (sl bd wr gr : Nat) (la : Int32) (last : Int64) : xCp l E y_R_isFollowing (.code y_R_isFollowing prog_3_method_3_code 1 (some .boolean)) rm_R_isFollowing_W [.ref hr] [(hr, .inr (3, [.ref h0, .int (bI fo), .int (nI (sl)), .int (nI (bd)), .int (nI (wr)), .ref hs, .int (nI (gr)), .int (la), .long (last)]))] (.inl (some (.int (bI fo)))) := by
  refine x_ofP (own := "LineCoder$Receiver") (mn := "isFollowing") (lv := [(0, .ref hr)]) (plainFor_of_name (by decide)) rfl rfl (Nat.le_of_ble_eq_true rfl) rfl ?_
  intro p_ e_ s_ m_ ar_ be_ me_ c_ hB
  refine x_aload_n 1 hB d_R_isFollowing_0 rfl rfl ?_
  refine x_get 4 hB 0 fg_R_15_3 rfl rfl d_R_isFollowing_1 rfl ?_
  exact x_zretP hB (by cases fo <;> rfl) (rfl) (by decide) (by decide) d_R_isFollowing_4
abbrev rm_R_slips_W : Room := { frames := 0, cells := 0, slots := 0, locals := 0 }
set_option maxHeartbeats 4000000 in
set_option maxRecDepth 100000 in
theorem c_R_slips_W (l : Launch) (E : xE) (hr h0 hs : Nat) (fo : Bool) (sl bd wr gr : Nat) (la : Int32) (last : Int64) : xCp l E y_R_slips (.code y_R_slips prog_3_method_4_code 1 (some .int)) rm_R_slips_W [.ref hr] [(hr, .inr (3, [.ref h0, .int (bI fo), .int (nI (sl)), .int (nI (bd)), .int (nI (wr)), .ref hs, .int (nI (gr)), .int (la), .long (last)]))] (.inl (some (.int (nI (sl))))) := by
  refine x_ofP (own := "LineCoder$Receiver") (mn := "slips") (lv := [(0, .ref hr)]) (plainFor_of_name (by decide)) rfl rfl (Nat.le_of_ble_eq_true rfl) rfl ?_
  intro p_ e_ s_ m_ ar_ be_ me_ c_ hB
  refine x_aload_n 1 hB d_R_slips_0 rfl rfl ?_
  refine x_get 4 hB 0 fg_R_19_3 rfl rfl d_R_slips_1 rfl ?_
  exact x_iretP hB (rfl) (by decide) (by decide) d_R_slips_4
abbrev rm_R_bads_W : Room := { frames := 0, cells := 0, slots := 0, locals := 0 }
set_option maxHeartbeats 4000000 in
set_option maxRecDepth 100000 in
theorem c_R_bads_W (l : Launch) (E : xE) (hr h0 hs : Nat) (fo : Bool) (sl bd wr gr : Nat) (la : Int32) (last : Int64) : xCp l E y_R_bads (.code y_R_bads prog_3_method_5_code 1 (some .int)) rm_R_bads_W [.ref hr] [(hr, .inr (3, [.ref h0, .int (bI fo), .int (nI (sl)), .int (nI (bd)), .int (nI (wr)), .ref hs, .int (nI (gr)), .int (la), .long (last)]))] (.inl (some (.int (nI (bd))))) := by
  refine x_ofP (own := "LineCoder$Receiver") (mn := "bads") (lv := [(0, .ref hr)]) (plainFor_of_name (by decide)) rfl rfl (Nat.le_of_ble_eq_true rfl) rfl ?_
  intro p_ e_ s_ m_ ar_ be_ me_ c_ hB
  refine x_aload_n 1 hB d_R_bads_0 rfl rfl ?_
  refine x_get 4 hB 0 fg_R_23_3 rfl rfl d_R_bads_1 rfl ?_
  exact x_iretP hB (rfl) (by decide) (by decide) d_R_bads_4
abbrev rm_R_wrongs_W : Room := { frames := 0, cells := 0, slots := 0, locals := 0 }
set_option maxHeartbeats 4000000 in
set_option maxRecDepth 100000 in
theorem c_R_wrongs_W (l : Launch) (E : xE) (hr h0 hs : Nat) (fo : Bool) (sl bd wr gr : Nat) (la : Int32) (last : Int64) : xCp l E y_R_wrongs (.code y_R_wrongs prog_3_method_6_code 1 (some .int)) rm_R_wrongs_W [.ref hr] [(hr, .inr (3, [.ref h0, .int (bI fo), .int (nI (sl)), .int (nI (bd)), .int (nI (wr)), .ref hs, .int (nI (gr)), .int (la), .long (last)]))] (.inl (some (.int (nI (wr))))) := by
  refine x_ofP (own := "LineCoder$Receiver") (mn := "wrongs") (lv := [(0, .ref hr)]) (plainFor_of_name (by decide)) rfl rfl (Nat.le_of_ble_eq_true rfl) rfl ?_
  intro p_ e_ s_ m_ ar_ be_ me_ c_ hB
  refine x_aload_n 1 hB d_R_wrongs_0 rfl rfl ?_
  refine x_get 4 hB 0 fg_R_26_3 rfl rfl d_R_wrongs_1 rfl ?_
  exact x_iretP hB (rfl) (by decide) (by decide) d_R_wrongs_4
abbrev rm_R_countAnew_W : Room := { frames := 0, cells := 0, slots := 0, locals := 0 }
set_option maxHeartbeats 4000000 in
set_option maxRecDepth 100000 in
theorem c_R_countAnew_W (l : Launch) (E : xE) (hr h0 hs : Nat) (fo : Bool) (sl bd wr gr : Nat) (la : Int32) (last : Int64) : xC l E y_R_countAnew (.code y_R_countAnew prog_3_method_7_code 1 none) rm_R_countAnew_W [.ref hr] [(hr, .inr (3, [.ref h0, .int (bI fo), .int (nI (sl)), .int (nI (bd)), .int (nI (wr)), .ref hs, .int (nI (gr)), .int (la), .long (last)]))] (xRet none [(hr, .inr (3, [.ref h0, .int (nI 0), .int (nI 0), .int (nI 0), .int (nI 0), .ref hs, .int (nI (gr)), .int (la), .long (last)]))]) := by
  refine x_of' (own := "LineCoder$Receiver") (mn := "countAnew") (lv := [(0, .ref hr)]) (plainFor_of_name (by decide)) rfl rfl (Nat.le_of_ble_eq_true rfl) rfl ?_
  intro p_ e_ s_ m_ ar_ be_ me_ c_ A_ hA hB
  refine x_aload_n 1 hB d_R_countAnew_0 rfl rfl ?_
  refine x_iconst (v := nI 0) 2 hB d_R_countAnew_1 rfl (by decide) ?_
  refine x_put 5 hB 0 (ws' := [(hr, .inr (3, [.ref h0, .int (nI 0), .int (nI (sl)), .int (nI (bd)), .int (nI (wr)), .ref hs, .int (nI (gr)), .int (la), .long (last)]))]) fp_R_15_3 rfl (rfl) (rfl) (Nat.le_of_ble_eq_true rfl) rfl d_R_countAnew_2 rfl ?_
  refine x_aload_n 6 hB d_R_countAnew_5 rfl rfl ?_
  refine x_iconst (v := nI 0) 7 hB d_R_countAnew_6 rfl (by decide) ?_
  refine x_put 10 hB 0 (ws' := [(hr, .inr (3, [.ref h0, .int (nI 0), .int (nI 0), .int (nI (bd)), .int (nI (wr)), .ref hs, .int (nI (gr)), .int (la), .long (last)]))]) fp_R_19_3 rfl (rfl) (rfl) (Nat.le_of_ble_eq_true rfl) rfl d_R_countAnew_7 rfl ?_
  refine x_aload_n 11 hB d_R_countAnew_10 rfl rfl ?_
  refine x_iconst (v := nI 0) 12 hB d_R_countAnew_11 rfl (by decide) ?_
  refine x_put 15 hB 0 (ws' := [(hr, .inr (3, [.ref h0, .int (nI 0), .int (nI 0), .int (nI 0), .int (nI (wr)), .ref hs, .int (nI (gr)), .int (la), .long (last)]))]) fp_R_23_3 rfl (rfl) (rfl) (Nat.le_of_ble_eq_true rfl) rfl d_R_countAnew_12 rfl ?_
  refine x_aload_n 16 hB d_R_countAnew_15 rfl rfl ?_
  refine x_iconst (v := nI 0) 17 hB d_R_countAnew_16 rfl (by decide) ?_
  refine x_put 20 hB 0 (ws' := [(hr, .inr (3, [.ref h0, .int (nI 0), .int (nI 0), .int (nI 0), .int (nI 0), .ref hs, .int (nI (gr)), .int (la), .long (last)]))]) fp_R_26_3 rfl (rfl) (rfl) (Nat.le_of_ble_eq_true rfl) rfl d_R_countAnew_17 rfl ?_
  exact x_vret hB (w' := [(hr, .inr (3, [.ref h0, .int (nI 0), .int (nI 0), .int (nI 0), .int (nI 0), .ref hs, .int (nI (gr)), .int (la), .long (last)]))]) hA [0] rfl rfl (xRet_i) (by decide) (by decide) d_R_countAnew_20
abbrev rm_R_slip_W : Room := { frames := 2, cells := 0, slots := 0, locals := 42 }
set_option maxHeartbeats 4000000 in
set_option maxRecDepth 100000 in
theorem c_R_slip_W (l : Launch) (E : xE) (hr h0 hs : Nat) (fo : Bool) (sl bd wr gr : Nat) (la : Int32) (last : Int64) (a0 n p : Nat) (hp : p + 1 ≤ n) (hn : n ≤ 2640) : xC l E y_R_slip (.code y_R_slip prog_3_method_8_code 1 (some .int)) rm_R_slip_W [.ref hr] [(hr, .inr (3, [.ref h0, .int (bI fo), .int (nI (sl)), .int (nI (bd)), .int (nI (wr)), .ref hs, .int (nI (gr)), .int (la), .long (last)])), (h0, .inr (0, [.ref a0, .int (nI (n)), .int (nI (p))]))] (xRet (some (.int (-3))) [(hr, .inr (3, [.ref h0, .int (bI fo), .int (nI (sl + 1)), .int (nI (bd)), .int (nI (wr)), .ref hs, .int (nI (gr)), .int (la), .long (last)])), (h0, .inr (0, [.ref a0, .int (nI (n)), .int (nI (p + 1))]))]) := by
  refine x_of' (own := "LineCoder$Receiver") (mn := "slip") (lv := [(0, .ref hr)]) (plainFor_of_name (by decide)) rfl rfl (Nat.le_of_ble_eq_true rfl) rfl ?_
  intro p_ e_ s_ m_ ar_ be_ me_ c_ A_ hA hB
  refine x_aload_n 1 hB d_R_slip_0 rfl rfl ?_
  refine x_get 4 hB 0 fg_R_9_3 rfl rfl d_R_slip_1 rfl ?_
  refine x_iconst (v := nI 1) 5 hB d_R_slip_4 rfl (by decide) ?_
  refine x_callD (k' := 0) (n' := 0) (rest := []) (wr := [(hr, .inr (3, [.ref h0, .int (bI fo), .int (nI (sl)), .int (nI (bd)), .int (nI (wr)), .ref hs, .int (nI (gr)), .int (la), .long (last)]))]) (ws' := [(hr, .inr (3, [.ref h0, .int (bI fo), .int (nI (sl)), .int (nI (bd)), .int (nI (wr)), .ref hs, .int (nI (gr)), .int (la), .long (last)])), (h0, .inr (0, [.ref a0, .int (nI (n)), .int (nI (p + 1))]))]) (st' := []) 8 hB (x_pfV (av := [.int (nI 1)]) (q0 := 1) hB w_187 xHd_code w_184 w_185 w_186 rfl rfl nm_L_advance rfl d_R_slip_5) (c_L_advance l E h0 a0 n p 1 hp hn) w_187 xHd_code w_2 [1] [0] rfl rfl rfl rfl (by decide) ⟨by decide, by decide⟩ ⟨by decide, by decide⟩ rfl rfl (Nat.le_of_ble_eq_true rfl) d_R_slip_5 rfl rfl rfl ?_
  refine x_aload_n 9 hB d_R_slip_8 rfl rfl ?_
  refine x_dup 10 hB d_R_slip_9 rfl rfl ?_
  refine x_get 13 hB 0 fg_R_19_3 rfl rfl d_R_slip_10 rfl ?_
  refine x_iconst (v := nI 1) 14 hB d_R_slip_13 rfl (by decide) ?_
  refine x_iadd 15 hB d_R_slip_14 rfl ?_
  refine x_top (v' := .int (nI (sl + 1))) (congrArg Value.int (nI_add sl 1)) ?_
  refine x_put 18 hB 0 (ws' := [(hr, .inr (3, [.ref h0, .int (bI fo), .int (nI (sl + 1)), .int (nI (bd)), .int (nI (wr)), .ref hs, .int (nI (gr)), .int (la), .long (last)])), (h0, .inr (0, [.ref a0, .int (nI (n)), .int (nI (p + 1))]))]) fp_R_19_3 rfl (rfl) (rfl) (Nat.le_of_ble_eq_true rfl) rfl d_R_slip_15 rfl ?_
  refine x_bipush (v := (-3 : Int32)) 20 hB d_R_slip_18 rfl (by decide) ?_
  exact x_iret hB (w' := [(hr, .inr (3, [.ref h0, .int (bI fo), .int (nI (sl + 1)), .int (nI (bd)), .int (nI (wr)), .ref hs, .int (nI (gr)), .int (la), .long (last)])), (h0, .inr (0, [.ref a0, .int (nI (n)), .int (nI (p + 1))]))]) hA [0, 1] rfl rfl (xRet_i) (by decide) (by decide) d_R_slip_20
abbrev rm_T_hasPlus : Room := { frames := 0, cells := 0, slots := 0, locals := 0 }
set_option maxHeartbeats 4000000 in
set_option maxRecDepth 100000 in
theorem c_T_hasPlus (l : Launch) (E : xE) (hr h0 : Nat) (fo plus first : Bool) (sl bd wr mk rw : Nat) : xCp l E y_T_hasPlus (.code y_T_hasPlus prog_6_method_3_code 1 (some .boolean)) rm_T_hasPlus [.ref hr] [(hr, .inr (2, [.ref h0, .int (bI fo), .int (nI (sl)), .int (nI (bd)), .int (nI (wr)), .int (bI plus), .int (bI first), .int (nI (mk)), .int (nI (rw))]))] (.inl (some (.int (bI plus)))) := by
  refine x_ofP (own := "LineCoder$TenReceiver") (mn := "hasPlus") (lv := [(0, .ref hr)]) (plainFor_of_name (by decide)) rfl rfl (Nat.le_of_ble_eq_true rfl) rfl ?_
  intro p_ e_ s_ m_ ar_ be_ me_ c_ hB
  refine x_aload_n 1 hB d_T_hasPlus_0 rfl rfl ?_
  refine x_get 4 hB 0 fg_T_9_2 rfl rfl d_T_hasPlus_1 rfl ?_
  exact x_zretP hB (by cases plus <;> rfl) (rfl) (by decide) (by decide) d_T_hasPlus_4
abbrev rm_T_marks : Room := { frames := 0, cells := 0, slots := 0, locals := 0 }
set_option maxHeartbeats 4000000 in
set_option maxRecDepth 100000 in
theorem c_T_marks (l : Launch) (E : xE) (hr h0 : Nat) (fo plus first : Bool) (sl bd wr mk rw : Nat) : xCp l E y_T_marks (.code y_T_marks prog_6_method_4_code 1 (some .int)) rm_T_marks [.ref hr] [(hr, .inr (2, [.ref h0, .int (bI fo), .int (nI (sl)), .int (nI (bd)), .int (nI (wr)), .int (bI plus), .int (bI first), .int (nI (mk)), .int (nI (rw))]))] (.inl (some (.int (nI (mk))))) := by
  refine x_ofP (own := "LineCoder$TenReceiver") (mn := "marks") (lv := [(0, .ref hr)]) (plainFor_of_name (by decide)) rfl rfl (Nat.le_of_ble_eq_true rfl) rfl ?_
  intro p_ e_ s_ m_ ar_ be_ me_ c_ hB
  refine x_aload_n 1 hB d_T_marks_0 rfl rfl ?_
  refine x_get 4 hB 0 fg_T_18_2 rfl rfl d_T_marks_1 rfl ?_
  exact x_iretP hB (rfl) (by decide) (by decide) d_T_marks_4
abbrev rm_W_lastWord : Room := { frames := 0, cells := 0, slots := 0, locals := 0 }
set_option maxHeartbeats 4000000 in
set_option maxRecDepth 100000 in
theorem c_W_lastWord (l : Launch) (E : xE) (hr h0 hs : Nat) (fo : Bool) (sl bd wr gr : Nat) (la : Int32) (last : Int64) : xCp l E y_W_lastWord (.code y_W_lastWord prog_8_method_3_code 1 (some .long)) rm_W_lastWord [.ref hr] [(hr, .inr (3, [.ref h0, .int (bI fo), .int (nI (sl)), .int (nI (bd)), .int (nI (wr)), .ref hs, .int (nI (gr)), .int (la), .long (last)]))] (.inl (some (.long (last)))) := by
  refine x_ofP (own := "LineCoder$WordReceiver") (mn := "lastWord") (lv := [(0, .ref hr)]) (plainFor_of_name (by decide)) rfl rfl (Nat.le_of_ble_eq_true rfl) rfl ?_
  intro p_ e_ s_ m_ ar_ be_ me_ c_ hB
  refine x_aload_n 1 hB d_W_lastWord_0 rfl rfl ?_
  refine x_get 4 hB 0 fg_W_27_3 rfl rfl d_W_lastWord_1 rfl ?_
  exact x_lretP hB (rfl) (by decide) (by decide) d_W_lastWord_4
