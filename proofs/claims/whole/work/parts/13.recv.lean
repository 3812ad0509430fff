abbrev rm_K_decode_m : Room := { frames := 3, cells := 0, slots := 0, locals := 71 }
set_option maxHeartbeats 4000000 in
set_option maxRecDepth 100000 in
theorem c_K_decode_m (l : Launch) (E : xE) (ten : Nat) (hten : ten < 1024) (plus : Bool) (hx : xoF (ten / 16) plus = none) : xCp l E y_K_decode (.code y_K_decode prog_5_method_4_code 4 (some .int)) rm_K_decode_m [.int (nI (ten)), .int (bI plus)] [] (.inl (some (.int (-1)))) := by
  refine x_ofP (own := "LineCoder$TenCode") (mn := "decode") (lv := [(0, .int (nI (ten))), (1, .int (bI plus))]) (plainFor_of_name (by decide)) rfl rfl (Nat.le_of_ble_eq_true rfl) rfl ?_
  intro p_ e_ s_ m_ ar_ be_ me_ c_ hB
  refine x_iload_n 1 hB d_K_decode_0 rfl rfl ?_
  refine x_iconst (v := nI 4) 2 hB d_K_decode_1 rfl (by decide) ?_
  refine x_ishr 3 hB d_K_decode_2 rfl ?_
  refine x_top (v' := .int (nI (ten / 16))) (congrArg Value.int (sh4 hten)) ?_
  refine x_iload_n 4 hB d_K_decode_3 rfl rfl ?_
  refine x_callP (k' := 0) (n' := 0) (rest := []) (st' := [.int (oI (xoF (ten / 16) plus))]) 7 hB (x_pfS (av := [.int (nI (ten / 16)), .int (bI plus)]) hB w_202 xHd_code w_8 w_200 w_201 nm_K_xOf rfl d_K_decode_4) (c_K_xOf l E (ten / 16) (by omega) plus) w_202 xHd_code w_8 [] rfl rfl ⟨by decide, by decide⟩ ⟨by decide, by decide⟩ rfl rfl (Nat.le_of_ble_eq_true rfl) d_K_decode_4 rfl rfl ?_
  refine x_top (v' := .int ((-1 : Int32))) (congrArg Value.int (by rw [hx]; rfl)) ?_
  refine x_istore_n 8 hB d_K_decode_7 rfl (by decide) (lv' := [(2, .int ((-1 : Int32))), (0, .int (nI (ten))), (1, .int (bI plus))]) rfl ?_
  refine x_iload_n 9 hB d_K_decode_8 rfl rfl ?_
  refine x_iconst (v := (-1 : Int32)) 10 hB d_K_decode_9 rfl (by decide) ?_
  refine x_icmp_ne 15 13 hB d_K_decode_10 (by decide) rfl (fun hc => absurd (by decide) hc) (fun _ => ?_)
  refine x_iconst (v := (-1 : Int32)) 14 hB d_K_decode_13 rfl (by decide) ?_
  exact x_iretP hB (rfl) (by decide) (by decide) d_K_decode_14
theorem c_K_decode (l : Launch) (E : xE) (ten : Nat) (hten : ten < 1024) (plus : Bool) : xCp l E y_K_decode (.code y_K_decode prog_5_method_4_code 4 (some .int)) rm_K_decode_s [.int (nI (ten)), .int (bI plus)] [] (.inl (some (.int (oI (decF ten plus))))) := by
  cases hx : xoF (ten / 16) plus with
  | none =>
    have h := c_K_decode_m l E ten hten plus hx
    have e : oI (decF ten plus) = (-1 : Int32) := by rw [decF, hx]; rfl
    rw [e]
    exact h
  | some x => exact c_K_decode_s l E ten hten plus x hx (by have := (scanF_lt hx).1; omega)
abbrev rm_JM_maxF : Room := { frames := 0, cells := 0, slots := 0, locals := 0 }
set_option maxHeartbeats 4000000 in
set_option maxRecDepth 100000 in
theorem c_JM_maxF (l : Launch) (E : xE) (a b : Int32) : xCp l E y_JM_max (.code y_JM_max prog_16_method_65_code 2 (some .int)) rm_JM_maxF [.int (a), .int (b)] [] (.inl (some (.int (mxF a b)))) := by
  refine x_ofP (own := "java/lang/Math") (mn := "max") (lv := [(0, .int (a)), (1, .int (b))]) (by decide +kernel) rfl rfl (Nat.le_of_ble_eq_true rfl) rfl ?_
  intro p_ e_ s_ m_ ar_ be_ me_ c_ hB
  refine x_iload_n 1 hB d_JM_max_0 rfl rfl ?_
  refine x_iload_n 2 hB d_JM_max_1 rfl rfl ?_
  refine x_icmp_lt 9 5 hB d_JM_max_2 (by decide) rfl (fun h2 => ?_) (fun h2 => ?_)
  · skip
    refine x_iload_n 10 hB d_JM_max_9 rfl rfl ?_
    exact x_iretP hB (sVe (by rw [mxF, if_pos h2])) (by decide) (by decide) d_JM_max_10
  · skip
    refine x_iload_n 6 hB d_JM_max_5 rfl rfl ?_
    refine x_goto 10 hB d_JM_max_6 (by decide) ?_
    exact x_iretP hB (sVe (by rw [mxF, if_neg h2])) (by decide) (by decide) d_JM_max_10
abbrev rm_T_mark : Room := { frames := 0, cells := 0, slots := 0, locals := 0 }
set_option maxHeartbeats 4000000 in
set_option maxRecDepth 100000 in
theorem c_T_mark (l : Launch) (E : xE) (hr h0 : Nat) (fo plus first : Bool) (sl bd wr mk rw : Nat) (hm : mk < 4) : xC l E y_T_mark (.code y_T_mark prog_6_method_9_code 1 none) rm_T_mark [.ref hr] [(hr, .inr (2, [.ref h0, .int (bI fo), .int (nI (sl)), .int (nI (bd)), .int (nI (wr)), .int (bI plus), .int (bI first), .int (nI (mk)), .int (nI (rw))]))] (xRet none [(hr, .inr (2, [.ref h0, .int (bI (fkF fo mk)), .int (nI (sl)), .int (nI (bd)), .int (nI (wr)), .int (bI plus), .int (bI first), .int (nI (mkF mk)), .int (nI 0)]))]) := by
  refine x_of' (own := "LineCoder$TenReceiver") (mn := "mark") (lv := [(0, .ref hr)]) (plainFor_of_name (by decide)) rfl rfl (Nat.le_of_ble_eq_true rfl) rfl ?_
  intro p_ e_ s_ m_ ar_ be_ me_ c_ A_ hA hB
  refine x_aload_n 1 hB d_T_mark_0 rfl rfl ?_
  refine x_iconst (v := nI 0) 2 hB d_T_mark_1 rfl (by decide) ?_
  refine x_put 5 hB 0 (ws' := [(hr, .inr (2, [.ref h0, .int (bI fo), .int (nI (sl)), .int (nI (bd)), .int (nI (wr)), .int (bI plus), .int (bI first), .int (nI (mk)), .int (nI 0)]))]) fp_T_22_2 rfl (rfl) (rfl) (Nat.le_of_ble_eq_true rfl) rfl d_T_mark_2 rfl ?_
  refine x_aload_n 6 hB d_T_mark_5 rfl rfl ?_
  refine x_dup 7 hB d_T_mark_6 rfl rfl ?_
  refine x_get 10 hB 0 fg_T_18_2 rfl rfl d_T_mark_7 rfl ?_
  refine x_iconst (v := nI 1) 11 hB d_T_mark_10 rfl (by decide) ?_
  refine x_iadd 12 hB d_T_mark_11 rfl ?_
  refine x_top (v' := .int (nI (mk + 1))) (congrArg Value.int (nI_add mk 1)) ?_
  refine x_put 15 hB 0 (ws' := [(hr, .inr (2, [.ref h0, .int (bI fo), .int (nI (sl)), .int (nI (bd)), .int (nI (wr)), .int (bI plus), .int (bI first), .int (nI (mk + 1)), .int (nI 0)]))]) fp_T_18_2 rfl (rfl) (rfl) (Nat.le_of_ble_eq_true rfl) rfl d_T_mark_12 rfl ?_
  refine x_aload_n 16 hB d_T_mark_15 rfl rfl ?_
  refine x_get 19 hB 0 fg_T_18_2 rfl rfl d_T_mark_16 rfl ?_
  refine x_iconst (v := nI 4) 20 hB d_T_mark_19 rfl (by decide) ?_
  refine x_icmp_lt 33 23 hB d_T_mark_20 (by decide) rfl (fun h20 => ?_) (fun h20 => ?_)
  · skip
    have k20 : (mk + 1) < 4 := (nI_ltI (by omega) (by omega)).mp h20
    exact x_vret hB (w' := [(hr, .inr (2, [.ref h0, .int (bI fo), .int (nI (sl)), .int (nI (bd)), .int (nI (wr)), .int (bI plus), .int (bI first), .int (nI (mk + 1)), .int (nI 0)]))]) hA [0] rfl rfl (⟨rfl, by rw [mkF, fkF, if_pos (by omega), if_pos (by omega)]⟩) (by decide) (by decide) d_T_mark_33
  · skip
    have k20 : ¬ (mk + 1) < 4 := fun h => h20 ((nI_ltI (by omega) (by omega)).mpr h)
    refine x_aload_n 24 hB d_T_mark_23 rfl rfl ?_
    refine x_iconst (v := nI 0) 25 hB d_T_mark_24 rfl (by decide) ?_
    refine x_put 28 hB 0 (ws' := [(hr, .inr (2, [.ref h0, .int (bI fo), .int (nI (sl)), .int (nI (bd)), .int (nI (wr)), .int (bI plus), .int (bI first), .int (nI 0), .int (nI 0)]))]) fp_T_18_2 rfl (rfl) (rfl) (Nat.le_of_ble_eq_true rfl) rfl d_T_mark_25 rfl ?_
    refine x_aload_n 29 hB d_T_mark_28 rfl rfl ?_
    refine x_iconst (v := nI 0) 30 hB d_T_mark_29 rfl (by decide) ?_
    refine x_put 33 hB 0 (ws' := [(hr, .inr (2, [.ref h0, .int (nI 0), .int (nI (sl)), .int (nI (bd)), .int (nI (wr)), .int (bI plus), .int (bI first), .int (nI 0), .int (nI 0)]))]) fp_T_29_2 rfl (rfl) (rfl) (Nat.le_of_ble_eq_true rfl) rfl d_T_mark_30 rfl ?_
    exact x_vret hB (w' := [(hr, .inr (2, [.ref h0, .int (nI 0), .int (nI (sl)), .int (nI (bd)), .int (nI (wr)), .int (bI plus), .int (bI first), .int (nI 0), .int (nI 0)]))]) hA [0] rfl rfl (⟨rfl, by rw [mkF, fkF, if_neg (by omega), if_neg (by omega)]; rfl⟩) (by decide) (by decide) d_T_mark_33
abbrev rm_T_praise : Room := { frames := 1, cells := 0, slots := 0, locals := 21 }
set_option maxHeartbeats 4000000 in
set_option maxRecDepth 100000 in
theorem c_T_praise (l : Launch) (E : xE) (hr h0 : Nat) (fo plus first : Bool) (sl bd wr mk rw : Nat) (hm : mk < 4) (hw : rw < 4) : xC l E y_T_praise (.code y_T_praise prog_6_method_10_code 1 none) rm_T_praise [.ref hr] [(hr, .inr (2, [.ref h0, .int (bI fo), .int (nI (sl)), .int (nI (bd)), .int (nI (wr)), .int (bI plus), .int (bI first), .int (nI (mk)), .int (nI (rw))]))] (xRet none [(hr, .inr (2, [.ref h0, .int (bI fo), .int (nI (sl)), .int (nI (bd)), .int (nI (wr)), .int (bI plus), .int (bI first), .int (nI (mpF mk rw)), .int (nI (rwF rw))]))]) := by
  refine x_of' (own := "LineCoder$TenReceiver") (mn := "praise") (lv := [(0, .ref hr)]) (plainFor_of_name (by decide)) rfl rfl (Nat.le_of_ble_eq_true rfl) rfl ?_
  intro p_ e_ s_ m_ ar_ be_ me_ c_ A_ hA hB
  refine x_aload_n 1 hB d_T_praise_0 rfl rfl ?_
  refine x_dup 2 hB d_T_praise_1 rfl rfl ?_
  refine x_get 5 hB 0 fg_T_22_2 rfl rfl d_T_praise_2 rfl ?_
  refine x_iconst (v := nI 1) 6 hB d_T_praise_5 rfl (by decide) ?_
  refine x_iadd 7 hB d_T_praise_6 rfl ?_
  refine x_top (v' := .int (nI (rw + 1))) (congrArg Value.int (nI_add rw 1)) ?_
  refine x_put 10 hB 0 (ws' := [(hr, .inr (2, [.ref h0, .int (bI fo), .int (nI (sl)), .int (nI (bd)), .int (nI (wr)), .int (bI plus), .int (bI first), .int (nI (mk)), .int (nI (rw + 1))]))]) fp_T_22_2 rfl (rfl) (rfl) (Nat.le_of_ble_eq_true rfl) rfl d_T_praise_7 rfl ?_
  refine x_aload_n 11 hB d_T_praise_10 rfl rfl ?_
  refine x_get 14 hB 0 fg_T_22_2 rfl rfl d_T_praise_11 rfl ?_
  refine x_iconst (v := nI 4) 15 hB d_T_praise_14 rfl (by decide) ?_
  refine x_icmp_ne 37 18 hB d_T_praise_15 (by decide) rfl (fun h15 => ?_) (fun h15 => ?_)
  · skip
    have k15 : ¬ (rw + 1) = 4 := fun h => h15 ((nI_eq (by omega) (by omega)).mpr h)
    exact x_vret hB (w' := [(hr, .inr (2, [.ref h0, .int (bI fo), .int (nI (sl)), .int (nI (bd)), .int (nI (wr)), .int (bI plus), .int (bI first), .int (nI (mk)), .int (nI (rw + 1))]))]) hA [0] rfl rfl (⟨rfl, by rw [mpF, rwF, if_neg (by omega), if_neg (by omega)]⟩) (by decide) (by decide) d_T_praise_37
  · skip
    have k15 : (rw + 1) = 4 := (nI_eq (by omega) (by omega)).mp h15
    refine x_aload_n 19 hB d_T_praise_18 rfl rfl ?_
    refine x_iconst (v := nI 0) 20 hB d_T_praise_19 rfl (by decide) ?_
    refine x_put 23 hB 0 (ws' := [(hr, .inr (2, [.ref h0, .int (bI fo), .int (nI (sl)), .int (nI (bd)), .int (nI (wr)), .int (bI plus), .int (bI first), .int (nI (mk)), .int (nI 0)]))]) fp_T_22_2 rfl (rfl) (rfl) (Nat.le_of_ble_eq_true rfl) rfl d_T_praise_20 rfl ?_
    refine x_aload_n 24 hB d_T_praise_23 rfl rfl ?_
    refine x_iconst (v := nI 0) 25 hB d_T_praise_24 rfl (by decide) ?_
    refine x_aload_n 26 hB d_T_praise_25 rfl rfl ?_
    refine x_get 29 hB 0 fg_T_18_2 rfl rfl d_T_praise_26 rfl ?_
    refine x_iconst (v := nI 1) 30 hB d_T_praise_29 rfl (by decide) ?_
    refine x_isub 31 hB d_T_praise_30 rfl ?_
    refine x_callP (k' := 0) (n' := 0) (rest := [.ref hr]) (st' := [.int (mxF (nI 0) (nI mk - nI 1)), .ref hr]) 34 hB (x_pfS (av := [.int (nI 0), .int ((nI (mk)) - (nI 1))]) hB w_253 xHd_code w_15 w_251 w_252 nm_JM_max rfl d_T_praise_31) (c_JM_maxF l E (nI 0) (nI mk - nI 1)) w_253 xHd_code w_15 [] rfl rfl ⟨by decide, by decide⟩ ⟨by decide, by decide⟩ rfl rfl (Nat.le_of_ble_eq_true rfl) d_T_praise_31 rfl rfl ?_
    refine x_top (v' := .int (nI (mk - 1))) (congrArg Value.int (mxF_1 hm)) ?_
    refine x_put 37 hB 0 (ws' := [(hr, .inr (2, [.ref h0, .int (bI fo), .int (nI (sl)), .int (nI (bd)), .int (nI (wr)), .int (bI plus), .int (bI first), .int (nI (mk - 1)), .int (nI 0)]))]) fp_T_18_2 rfl (rfl) (rfl) (Nat.le_of_ble_eq_true rfl) rfl d_T_praise_34 rfl ?_
    exact x_vret hB (w' := [(hr, .inr (2, [.ref h0, .int (bI fo), .int (nI (sl)), .int (nI (bd)), .int (nI (wr)), .int (bI plus), .int (bI first), .int (nI (mk - 1)), .int (nI 0)]))]) hA [0] rfl rfl (⟨rfl, by rw [mpF, rwF, if_pos (by omega), if_pos (by omega)]⟩) (by decide) (by decide) d_T_praise_37
abbrev rm_T_judge_n : Room := { frames := 2, cells := 0, slots := 0, locals := 41 }
set_option maxHeartbeats 4000000 in
set_option maxRecDepth 100000 in
theorem c_T_judge_n (l : Launch) (E : xE) (hr h0 : Nat) (fo plus first : Bool) (sl bd wr mk rw : Nat) (hm : mk < 4) (z : Int32) : xC l E y_T_judge (.code y_T_judge prog_6_method_8_code 3 (some .int)) rm_T_judge_n [.ref hr, .int (-1), .int (z)] [(hr, .inr (2, [.ref h0, .int (bI fo), .int (nI (sl)), .int (nI (bd)), .int (nI (wr)), .int (bI plus), .int (bI first), .int (nI (mk)), .int (nI (rw))]))] (xRet (some (.int (-2))) [(hr, .inr (2, [.ref h0, .int (bI (fkF fo mk)), .int (nI (sl)), .int (nI (bd + 1)), .int (nI (wr)), .int (bI plus), .int (bI first), .int (nI (mkF mk)), .int (nI 0)]))]) := by
  refine x_of' (own := "LineCoder$TenReceiver") (mn := "judge") (lv := [(0, .ref hr), (1, .int (-1)), (2, .int (z))]) (plainFor_of_name (by decide)) rfl rfl (Nat.le_of_ble_eq_true rfl) rfl ?_
  intro p_ e_ s_ m_ ar_ be_ me_ c_ A_ hA hB
  refine x_iload_n 1 hB d_T_judge_0 rfl rfl ?_
  refine x_iconst (v := (-1 : Int32)) 2 hB d_T_judge_1 rfl (by decide) ?_
  refine x_icmp_ne 22 5 hB d_T_judge_2 (by decide) rfl (fun hc => absurd (by decide) hc) (fun _ => ?_)
  refine x_aload_n 6 hB d_T_judge_5 rfl rfl ?_
  refine x_dup 7 hB d_T_judge_6 rfl rfl ?_
  refine x_get 10 hB 0 fg_T_73_2 rfl rfl d_T_judge_7 rfl ?_
  refine x_iconst (v := nI 1) 11 hB d_T_judge_10 rfl (by decide) ?_
  refine x_iadd 12 hB d_T_judge_11 rfl ?_
  refine x_top (v' := .int (nI (bd + 1))) (congrArg Value.int (nI_add bd 1)) ?_
  refine x_put 15 hB 0 (ws' := [(hr, .inr (2, [.ref h0, .int (bI fo), .int (nI (sl)), .int (nI (bd + 1)), .int (nI (wr)), .int (bI plus), .int (bI first), .int (nI (mk)), .int (nI (rw))]))]) fp_T_73_2 rfl (rfl) (rfl) (Nat.le_of_ble_eq_true rfl) rfl d_T_judge_12 rfl ?_
  refine x_aload_n 16 hB d_T_judge_15 rfl rfl ?_
  refine x_callD (k' := 0) (n' := 0) (rest := []) (wr := []) (ws' := [(hr, .inr (2, [.ref h0, .int (bI (fkF fo mk)), .int (nI (sl)), .int (nI (bd + 1)), .int (nI (wr)), .int (bI plus), .int (bI first), .int (nI (mkF mk)), .int (nI 0)]))]) (st' := []) 19 hB (x_pfV (av := []) (q0 := 0) hB w_246 xHd_code w_243 w_245 s_T_mark rfl rfl nm_T_mark rfl d_T_judge_16) (c_T_mark l E hr h0 fo plus first sl (bd + 1) wr mk rw hm) w_246 xHd_code w_4 [0] [] rfl rfl rfl rfl (by decide) ⟨by decide, by decide⟩ ⟨by decide, by decide⟩ rfl rfl (Nat.le_of_ble_eq_true rfl) d_T_judge_16 rfl rfl rfl ?_
  refine x_bipush (v := (-2 : Int32)) 21 hB d_T_judge_19 rfl (by decide) ?_
  exact x_iret hB (w' := [(hr, .inr (2, [.ref h0, .int (bI (fkF fo mk)), .int (nI (sl)), .int (nI (bd + 1)), .int (nI (wr)), .int (bI plus), .int (bI first), .int (nI (mkF mk)), .int (nI 0)]))]) hA [0] rfl rfl (xRet_i) (by decide) (by decide) d_T_judge_21
abbrev rm_T_judge_w : Room := { frames := 2, cells := 0, slots := 0, locals := 41 }
set_option maxHeartbeats 4000000 in
set_option maxRecDepth 100000 in
theorem c_T_judge_w (l : Launch) (E : xE) (hr h0 : Nat) (fo plus first : Bool) (sl bd wr mk rw : Nat) (hm : mk < 4) (y : Nat) (hy : y < 512) : xC l E y_T_judge (.code y_T_judge prog_6_method_8_code 3 (some .int)) rm_T_judge_w [.ref hr, .int (nI (y)), .int (nI 1)] [(hr, .inr (2, [.ref h0, .int (bI fo), .int (nI (sl)), .int (nI (bd)), .int (nI (wr)), .int (bI plus), .int (bI first), .int (nI (mk)), .int (nI (rw))]))] (xRet (some (.int (nI (y + 512)))) [(hr, .inr (2, [.ref h0, .int (bI (fkF fo mk)), .int (nI (sl)), .int (nI (bd)), .int (nI (wr + 1)), .int (bI plus), .int (bI first), .int (nI (mkF mk)), .int (nI 0)]))]) := by
  refine x_of' (own := "LineCoder$TenReceiver") (mn := "judge") (lv := [(0, .ref hr), (1, .int (nI (y))), (2, .int (nI 1))]) (plainFor_of_name (by decide)) rfl rfl (Nat.le_of_ble_eq_true rfl) rfl ?_
  intro p_ e_ s_ m_ ar_ be_ me_ c_ A_ hA hB
  refine x_iload_n 1 hB d_T_judge_0 rfl rfl ?_
  refine x_iconst (v := (-1 : Int32)) 2 hB d_T_judge_1 rfl (by decide) ?_
  refine x_icmp_ne 22 5 hB d_T_judge_2 (by decide) rfl (fun _ => ?_) (fun hc => absurd hc (nI_m1 (by omega)))
  refine x_iload_n 23 hB d_T_judge_22 rfl rfl ?_
  refine x_if_eq 46 26 hB d_T_judge_23 (by decide) rfl (fun hc => absurd hc (by decide)) (fun _ => ?_)
  refine x_aload_n 27 hB d_T_judge_26 rfl rfl ?_
  refine x_dup 28 hB d_T_judge_27 rfl rfl ?_
  refine x_get 31 hB 0 fg_T_79_2 rfl rfl d_T_judge_28 rfl ?_
  refine x_iconst (v := nI 1) 32 hB d_T_judge_31 rfl (by decide) ?_
  refine x_iadd 33 hB d_T_judge_32 rfl ?_
  refine x_top (v' := .int (nI (wr + 1))) (congrArg Value.int (nI_add wr 1)) ?_
  refine x_put 36 hB 0 (ws' := [(hr, .inr (2, [.ref h0, .int (bI fo), .int (nI (sl)), .int (nI (bd)), .int (nI (wr + 1)), .int (bI plus), .int (bI first), .int (nI (mk)), .int (nI (rw))]))]) fp_T_79_2 rfl (rfl) (rfl) (Nat.le_of_ble_eq_true rfl) rfl d_T_judge_33 rfl ?_
  refine x_aload_n 37 hB d_T_judge_36 rfl rfl ?_
  refine x_callD (k' := 0) (n' := 0) (rest := []) (wr := []) (ws' := [(hr, .inr (2, [.ref h0, .int (bI (fkF fo mk)), .int (nI (sl)), .int (nI (bd)), .int (nI (wr + 1)), .int (bI plus), .int (bI first), .int (nI (mkF mk)), .int (nI 0)]))]) (st' := []) 40 hB (x_pfV (av := []) (q0 := 0) hB w_246 xHd_code w_243 w_245 s_T_mark rfl rfl nm_T_mark rfl d_T_judge_37) (c_T_mark l E hr h0 fo plus first sl bd (wr + 1) mk rw hm) w_246 xHd_code w_4 [0] [] rfl rfl rfl rfl (by decide) ⟨by decide, by decide⟩ ⟨by decide, by decide⟩ rfl rfl (Nat.le_of_ble_eq_true rfl) d_T_judge_37 rfl rfl rfl ?_
  refine x_iload_n 41 hB d_T_judge_40 rfl rfl ?_
  refine x_sipush (v := nI 512) 44 hB d_T_judge_41 rfl (by decide) ?_
  refine x_iadd 45 hB d_T_judge_44 rfl ?_
  refine x_top (v' := .int (nI (y + 512))) (congrArg Value.int (nI_add y 512)) ?_
  exact x_iret hB (w' := [(hr, .inr (2, [.ref h0, .int (bI (fkF fo mk)), .int (nI (sl)), .int (nI (bd)), .int (nI (wr + 1)), .int (bI plus), .int (bI first), .int (nI (mkF mk)), .int (nI 0)]))]) hA [0] rfl rfl (xRet_i) (by decide) (by decide) d_T_judge_45
abbrev rm_T_judge_g : Room := { frames := 2, cells := 0, slots := 0, locals := 41 }
set_option maxHeartbeats 4000000 in
set_option maxRecDepth 100000 in
theorem c_T_judge_g (l : Launch) (E : xE) (hr h0 : Nat) (fo plus first : Bool) (sl bd wr mk rw : Nat) (hm : mk < 4) (hw : rw < 4) (y : Nat) (hy : y < 512) : xC l E y_T_judge (.code y_T_judge prog_6_method_8_code 3 (some .int)) rm_T_judge_g [.ref hr, .int (nI (y)), .int (nI 0)] [(hr, .inr (2, [.ref h0, .int (bI fo), .int (nI (sl)), .int (nI (bd)), .int (nI (wr)), .int (bI plus), .int (bI first), .int (nI (mk)), .int (nI (rw))]))] (xRet (some (.int (nI (y)))) [(hr, .inr (2, [.ref h0, .int (bI fo), .int (nI (sl)), .int (nI (bd)), .int (nI (wr)), .int (bI plus), .int (bI first), .int (nI (mpF mk rw)), .int (nI (rwF rw))]))]) := by
  refine x_of' (own := "LineCoder$TenReceiver") (mn := "judge") (lv := [(0, .ref hr), (1, .int (nI (y))), (2, .int (nI 0))]) (plainFor_of_name (by decide)) rfl rfl (Nat.le_of_ble_eq_true rfl) rfl ?_
  intro p_ e_ s_ m_ ar_ be_ me_ c_ A_ hA hB
  refine x_iload_n 1 hB d_T_judge_0 rfl rfl ?_
  refine x_iconst (v := (-1 : Int32)) 2 hB d_T_judge_1 rfl (by decide) ?_
  refine x_icmp_ne 22 5 hB d_T_judge_2 (by decide) rfl (fun _ => ?_) (fun hc => absurd hc (nI_m1 (by omega)))
  refine x_iload_n 23 hB d_T_judge_22 rfl rfl ?_
  refine x_if_eq 46 26 hB d_T_judge_23 (by decide) rfl (fun _ => ?_) (fun hc => absurd (by decide) hc)
  refine x_aload_n 47 hB d_T_judge_46 rfl rfl ?_
  refine x_callD (k' := 0) (n' := 0) (rest := []) (wr := []) (ws' := [(hr, .inr (2, [.ref h0, .int (bI fo), .int (nI (sl)), .int (nI (bd)), .int (nI (wr)), .int (bI plus), .int (bI first), .int (nI (mpF mk rw)), .int (nI (rwF rw))]))]) (st' := []) 50 hB (x_pfV (av := []) (q0 := 0) hB w_250 xHd_code w_247 w_249 s_T_praise rfl rfl nm_T_praise rfl d_T_judge_47) (c_T_praise l E hr h0 fo plus first sl bd wr mk rw hm hw) w_250 xHd_code w_4 [0] [] rfl rfl rfl rfl (by decide) ⟨by decide, by decide⟩ ⟨by decide, by decide⟩ rfl rfl (Nat.le_of_ble_eq_true rfl) d_T_judge_47 rfl rfl rfl ?_
  refine x_iload_n 51 hB d_T_judge_50 rfl rfl ?_
  exact x_iret hB (w' := [(hr, .inr (2, [.ref h0, .int (bI fo), .int (nI (sl)), .int (nI (bd)), .int (nI (wr)), .int (bI plus), .int (bI first), .int (nI (mpF mk rw)), .int (nI (rwF rw))]))]) hA [0] rfl rfl (xRet_i) (by decide) (by decide) d_T_judge_51
abbrev rm_T_isAtMark : Room := { frames := 3, cells := 0, slots := 0, locals := 65 }
set_option maxHeartbeats 4000000 in
set_option maxRecDepth 100000 in
theorem c_T_isAtMark (l : Launch) (E : xE) (hr h0 : Nat) (fo plus first : Bool) (sl bd wr mk rw : Nat) (a0 n p : Nat) (f : Nat → Int32) (hp : p + 7 ≤ n) (hn : n ≤ 2640) (hb : ∀ i, i < n → f i = 0 ∨ f i = 1) : xCp l E y_T_isAtMark (.code y_T_isAtMark prog_6_method_6_code 2 (some .boolean)) rm_T_isAtMark [.ref hr] [(hr, .inr (2, [.ref h0, .int (bI fo), .int (nI (sl)), .int (nI (bd)), .int (nI (wr)), .int (bI plus), .int (bI first), .int (nI (mk)), .int (nI (rw))])), (h0, .inr (0, [.ref a0, .int (nI (n)), .int (nI (p))])), (a0, .inl (E.2 0, 2640, .inl (f)))] (.inl (some (.int (bI (atM f p))))) := by
  refine x_ofP (own := "LineCoder$TenReceiver") (mn := "isAtMark") (lv := [(0, .ref hr)]) (plainFor_of_name (by decide)) rfl rfl (Nat.le_of_ble_eq_true rfl) rfl ?_
  intro p_ e_ s_ m_ ar_ be_ me_ c_ hB
  refine x_aload_n 1 hB d_T_isAtMark_0 rfl rfl ?_
  refine x_get 4 hB 0 fg_T_32_2 rfl rfl d_T_isAtMark_1 rfl ?_
  refine x_bipush (v := nI 7) 6 hB d_T_isAtMark_4 rfl (by decide) ?_
  refine x_callP (k' := 0) (n' := 0) (rest := []) (st' := [.int (ahF f p 7)]) 9 hB (x_pfV (av := [.int (nI 7)]) (q0 := 1) hB w_169 xHd_code w_166 w_167 w_168 rfl rfl nm_L_ahead rfl d_T_isAtMark_6) (c_L_ahead l E h0 a0 n p f 7 hp hn hb) w_169 xHd_code w_2 [1, 2] rfl rfl ⟨by decide, by decide⟩ ⟨by decide, by decide⟩ rfl rfl (Nat.le_of_ble_eq_true rfl) d_T_isAtMark_6 rfl rfl ?_
  refine x_top (v' := .int (nI (ahN f p 7))) (congrArg Value.int (ah_e hb 7 (by omega) hp)) ?_
  have hl7 : ahN f p 7 < 128 := ahN_lt f p 7
  refine x_istore_n 10 hB d_T_isAtMark_9 rfl (by decide) (lv' := [(1, .int (nI (ahN f p 7))), (0, .ref hr)]) rfl ?_
  refine x_iload_n 11 hB d_T_isAtMark_10 rfl rfl ?_
  refine x_bipush (v := nI 31) 13 hB d_T_isAtMark_11 rfl (by decide) ?_
  refine x_icmp_eq 22 16 hB d_T_isAtMark_13 (by decide) rfl (fun h13 => ?_) (fun h13 => ?_)
  · skip
    have k13 : ahN f p 7 = 31 := (nI_eq (by omega) (by omega)).mp h13
    refine x_iconst (v := nI 1) 23 hB d_T_isAtMark_22 rfl (by decide) ?_
    refine x_goto 27 hB d_T_isAtMark_23 (by decide) ?_
    exact x_zretP hB (by decide) (sVe (bT (decide_eq_true (Or.inl k13)))) (by decide) (by decide) d_T_isAtMark_27
  · skip
    have k13 : ¬ ahN f p 7 = 31 := fun h => h13 ((nI_eq (by omega) (by omega)).mpr h)
    refine x_iload_n 17 hB d_T_isAtMark_16 rfl rfl ?_
    refine x_bipush (v := nI 96) 19 hB d_T_isAtMark_17 rfl (by decide) ?_
    refine x_icmp_ne 26 22 hB d_T_isAtMark_19 (by decide) rfl (fun h19 => ?_) (fun h19 => ?_)
    · skip
      have k19 : ¬ ahN f p 7 = 96 := fun h => h19 ((nI_eq (by omega) (by omega)).mpr h)
      refine x_iconst (v := nI 0) 27 hB d_T_isAtMark_26 rfl (by decide) ?_
      exact x_zretP hB (by decide) (sVe (bF0 (decide_eq_false (fun h => h.elim k13 k19)))) (by decide) (by decide) d_T_isAtMark_27
    · skip
      have k19 : ahN f p 7 = 96 := (nI_eq (by omega) (by omega)).mp h19
      refine x_iconst (v := nI 1) 23 hB d_T_isAtMark_22 rfl (by decide) ?_
      refine x_goto 27 hB d_T_isAtMark_23 (by decide) ?_
      exact x_zretP hB (by decide) (sVe (bT (decide_eq_true (Or.inr k19)))) (by decide) (by decide) d_T_isAtMark_27
abbrev rm_T_takeTen_A : Room := { frames := 4, cells := 0, slots := 0, locals := 94 }
set_option maxHeartbeats 4000000 in
set_option maxRecDepth 100000 in
theorem c_T_takeTen_A (l : Launch) (E : xE) (hr h0 : Nat) (fo plus first : Bool) (sl bd wr mk rw : Nat) (a0 n p : Nat) (f : Nat → Int32) (hp : p + 10 ≤ n) (hn : n ≤ 2640) (hb : ∀ i, i < n → f i = 0 ∨ f i = 1) (hm : mk < 4) (hw : rw < 4) (y : Nat) (hy : y < 512) (h1 : decF (ahN f p 10) plus = some y) : xC l E y_T_takeTen (.code y_T_takeTen prog_6_method_7_code 6 (some .int)) rm_T_takeTen_A [.ref hr] [(hr, .inr (2, [.ref h0, .int (bI fo), .int (nI (sl)), .int (nI (bd)), .int (nI (wr)), .int (bI plus), .int (bI first), .int (nI (mk)), .int (nI (rw))])), (h0, .inr (0, [.ref a0, .int (nI (n)), .int (nI (p))])), (a0, .inl (E.2 0, 2640, .inl (f)))] (xRet (some (.int (nI (y)))) [(hr, .inr (2, [.ref h0, .int (bI fo), .int (nI (sl)), .int (nI (bd)), .int (nI (wr)), .int (bI (pbT (ahN f p 10) (plus))), .int (nI 0), .int (nI (mpF mk rw)), .int (nI (rwF rw))])), (h0, .inr (0, [.ref a0, .int (nI (n)), .int (nI (p + 10))])), (a0, .inl (E.2 0, 2640, .inl (f)))]) := by
  refine x_of' (own := "LineCoder$TenReceiver") (mn := "takeTen") (lv := [(0, .ref hr)]) (plainFor_of_name (by decide)) rfl rfl (Nat.le_of_ble_eq_true rfl) rfl ?_
  intro p_ e_ s_ m_ ar_ be_ me_ c_ A_ hA hB
  refine x_aload_n 1 hB d_T_takeTen_0 rfl rfl ?_
  refine x_get 4 hB 0 fg_T_32_2 rfl rfl d_T_takeTen_1 rfl ?_
  refine x_bipush (v := nI 10) 6 hB d_T_takeTen_4 rfl (by decide) ?_
  refine x_callP (k' := 0) (n' := 0) (rest := []) (st' := [.int (ahF f p 10)]) 9 hB (x_pfV (av := [.int (nI 10)]) (q0 := 1) hB w_169 xHd_code w_166 w_167 w_168 rfl rfl nm_L_ahead rfl d_T_takeTen_6) (c_L_ahead l E h0 a0 n p f 10 hp hn hb) w_169 xHd_code w_2 [1, 2] rfl rfl ⟨by decide, by decide⟩ ⟨by decide, by decide⟩ rfl rfl (Nat.le_of_ble_eq_true rfl) d_T_takeTen_6 rfl rfl ?_
  refine x_top (v' := .int (nI (ahN f p 10))) (congrArg Value.int (ah_e hb 10 (by omega) hp)) ?_
  refine x_istore_n 10 hB d_T_takeTen_9 rfl (by decide) (lv' := [(1, .int (nI (ahN f p 10))), (0, .ref hr)]) rfl ?_
  refine x_aload_n 11 hB d_T_takeTen_10 rfl rfl ?_
  refine x_get 14 hB 0 fg_T_32_2 rfl rfl d_T_takeTen_11 rfl ?_
  refine x_bipush (v := nI 10) 16 hB d_T_takeTen_14 rfl (by decide) ?_
  refine x_callD (k' := 0) (n' := 0) (rest := []) (wr := [(hr, .inr (2, [.ref h0, .int (bI fo), .int (nI (sl)), .int (nI (bd)), .int (nI (wr)), .int (bI plus), .int (bI first), .int (nI (mk)), .int (nI (rw))])), (a0, .inl (E.2 0, 2640, .inl (f)))]) (ws' := [(hr, .inr (2, [.ref h0, .int (bI fo), .int (nI (sl)), .int (nI (bd)), .int (nI (wr)), .int (bI plus), .int (bI first), .int (nI (mk)), .int (nI (rw))])), (a0, .inl (E.2 0, 2640, .inl (f))), (h0, .inr (0, [.ref a0, .int (nI (n)), .int (nI (p + 10))]))]) (st' := []) 19 hB (x_pfV (av := [.int (nI 10)]) (q0 := 1) hB w_187 xHd_code w_196 w_185 w_186 rfl rfl nm_L_advance rfl d_T_takeTen_16) (c_L_advance l E h0 a0 n p 10 hp hn) w_187 xHd_code w_2 [1] [0, 2] rfl rfl rfl rfl (by decide) ⟨by decide, by decide⟩ ⟨by decide, by decide⟩ rfl rfl (Nat.le_of_ble_eq_true rfl) d_T_takeTen_16 rfl rfl rfl ?_
  refine x_iload_n 20 hB d_T_takeTen_19 rfl rfl ?_
  refine x_aload_n 21 hB d_T_takeTen_20 rfl rfl ?_
  refine x_get 24 hB 0 fg_T_9_2 rfl rfl d_T_takeTen_21 rfl ?_
  refine x_callP (k' := 0) (n' := 0) (rest := []) (st' := [.int (oI (decF (ahN f p 10) plus))]) 27 hB (x_pfS (av := [.int (nI (ahN f p 10)), .int (bI plus)]) hB w_199 xHd_code w_8 w_197 w_198 nm_K_decode rfl d_T_takeTen_24) (c_K_decode l E (ahN f p 10) (ahN_lt f p 10) plus) w_199 xHd_code w_8 [] rfl rfl ⟨by decide, by decide⟩ ⟨by decide, by decide⟩ rfl rfl (Nat.le_of_ble_eq_true rfl) d_T_takeTen_24 rfl rfl ?_
  refine x_top (v' := .int (nI (y))) (congrArg Value.int (by rw [h1]; rfl)) ?_
  refine x_istore_n 28 hB d_T_takeTen_27 rfl (by decide) (lv' := [(2, .int (nI (y))), (1, .int (nI (ahN f p 10))), (0, .ref hr)]) rfl ?_
  refine x_iload_n 29 hB d_T_takeTen_28 rfl rfl ?_
  refine x_iconst (v := (-1 : Int32)) 30 hB d_T_takeTen_29 rfl (by decide) ?_
  refine x_icmp_eq 37 33 hB d_T_takeTen_30 (by decide) rfl (fun hc => absurd hc (nI_m1 (by omega))) (fun _ => ?_)
  refine x_iload_n 34 hB d_T_takeTen_33 rfl rfl ?_
  refine x_goto 53 hB d_T_takeTen_34 (by decide) ?_
  refine x_istore_n 54 hB d_T_takeTen_53 rfl (by decide) (lv' := [(3, .int (nI (y))), (2, .int (nI (y))), (1, .int (nI (ahN f p 10))), (0, .ref hr)]) rfl ?_
  refine x_iload_n 55 hB d_T_takeTen_54 rfl rfl ?_
  refine x_iconst (v := (-1 : Int32)) 56 hB d_T_takeTen_55 rfl (by decide) ?_
  refine x_icmp_ne 68 59 hB d_T_takeTen_56 (by decide) rfl (fun _ => ?_) (fun hc => absurd hc (nI_m1 (by omega)))
  refine x_iconst (v := nI 0) 69 hB d_T_takeTen_68 rfl (by decide) ?_
  refine x_istore 71 hB d_T_takeTen_69 rfl (by decide) (lv' := [(4, .int (nI 0)), (3, .int (nI (y))), (2, .int (nI (y))), (1, .int (nI (ahN f p 10))), (0, .ref hr)]) rfl ?_
  refine x_iload 73 hB d_T_takeTen_71 rfl rfl ?_
  refine x_if_eq 87 76 hB d_T_takeTen_73 (by decide) rfl (fun _ => ?_) (fun hc => absurd (by decide) hc)
  refine x_iconst (v := nI 0) 88 hB d_T_takeTen_87 rfl (by decide) ?_
  refine x_istore 90 hB d_T_takeTen_88 rfl (by decide) (lv' := [(5, .int (nI 0)), (4, .int (nI 0)), (3, .int (nI (y))), (2, .int (nI (y))), (1, .int (nI (ahN f p 10))), (0, .ref hr)]) rfl ?_
  refine x_iload 92 hB d_T_takeTen_90 rfl rfl ?_
  refine x_if_eq 118 95 hB d_T_takeTen_92 (by decide) rfl (fun _ => ?_) (fun hc => absurd (by decide) hc)
  refine x_aload_n 119 hB d_T_takeTen_118 rfl rfl ?_
  refine x_iconst (v := nI 0) 120 hB d_T_takeTen_119 rfl (by decide) ?_
  refine x_put 123 hB 0 (ws' := [(hr, .inr (2, [.ref h0, .int (bI fo), .int (nI (sl)), .int (nI (bd)), .int (nI (wr)), .int (bI plus), .int (nI 0), .int (nI (mk)), .int (nI (rw))])), (a0, .inl (E.2 0, 2640, .inl (f))), (h0, .inr (0, [.ref a0, .int (nI (n)), .int (nI (p + 10))]))]) fp_T_15_2 rfl (rfl) (rfl) (Nat.le_of_ble_eq_true rfl) rfl d_T_takeTen_120 rfl ?_
  refine x_aload_n 124 hB d_T_takeTen_123 rfl rfl ?_
  refine x_iload_n 125 hB d_T_takeTen_124 rfl rfl ?_
  refine x_aload_n 126 hB d_T_takeTen_125 rfl rfl ?_
  refine x_get 129 hB 0 fg_T_9_2 rfl rfl d_T_takeTen_126 rfl ?_
  refine x_callP (k' := 0) (n' := 0) (rest := [.ref hr]) (st' := [.int (bI (pbT (ahN f p 10) (plus))), .ref hr]) 132 hB (x_pfS (av := [.int (nI (ahN f p 10)), .int (bI plus)]) hB w_235 xHd_code w_8 w_233 w_234 nm_K_plusBehind rfl d_T_takeTen_129) (c_K_plusBehind l E (ahN f p 10) (ahN_lt f p 10) (plus)) w_235 xHd_code w_8 [] rfl rfl ⟨by decide, by decide⟩ ⟨by decide, by decide⟩ rfl rfl (Nat.le_of_ble_eq_true rfl) d_T_takeTen_129 rfl rfl ?_
  refine x_put 135 hB 0 (ws' := [(hr, .inr (2, [.ref h0, .int (bI fo), .int (nI (sl)), .int (nI (bd)), .int (nI (wr)), .int (bI (pbT (ahN f p 10) (plus))), .int (nI 0), .int (nI (mk)), .int (nI (rw))])), (a0, .inl (E.2 0, 2640, .inl (f))), (h0, .inr (0, [.ref a0, .int (nI (n)), .int (nI (p + 10))]))]) fp_T_9_2 rfl (nrb _) (by cases (pbT (ahN f p 10) (plus)) <;> rfl) (Nat.le_of_ble_eq_true rfl) rfl d_T_takeTen_132 rfl ?_
  refine x_aload_n 136 hB d_T_takeTen_135 rfl rfl ?_
  refine x_iload_n 137 hB d_T_takeTen_136 rfl rfl ?_
  refine x_iload 139 hB d_T_takeTen_137 rfl rfl ?_
  refine x_callD (k' := 0) (n' := 0) (rest := []) (wr := [(a0, .inl (E.2 0, 2640, .inl (f))), (h0, .inr (0, [.ref a0, .int (nI (n)), .int (nI (p + 10))]))]) (ws' := [(a0, .inl (E.2 0, 2640, .inl (f))), (h0, .inr (0, [.ref a0, .int (nI (n)), .int (nI (p + 10))])), (hr, .inr (2, [.ref h0, .int (bI fo), .int (nI (sl)), .int (nI (bd)), .int (nI (wr)), .int (bI (pbT (ahN f p 10) (plus))), .int (nI 0), .int (nI (mpF mk rw)), .int (nI (rwF rw))]))]) (st' := [.int (nI (y))]) 142 hB (x_pfV (av := [.int (nI (y)), .int (nI 0)]) (q0 := 0) hB w_242 xHd_code w_239 w_241 s_T_judge rfl rfl nm_T_judge rfl d_T_takeTen_139) (c_T_judge_g l E hr h0 fo (pbT (ahN f p 10) (plus)) false sl bd wr mk rw hm hw y hy) w_242 xHd_code w_4 [0] [1, 2] rfl rfl rfl rfl (by decide) ⟨by decide, by decide⟩ ⟨by decide, by decide⟩ rfl rfl (Nat.le_of_ble_eq_true rfl) d_T_takeTen_139 rfl rfl rfl ?_
  exact x_iret hB (w' := [(hr, .inr (2, [.ref h0, .int (bI fo), .int (nI (sl)), .int (nI (bd)), .int (nI (wr)), .int (bI (pbT (ahN f p 10) (plus))), .int (nI 0), .int (nI (mpF mk rw)), .int (nI (rwF rw))])), (h0, .inr (0, [.ref a0, .int (nI (n)), .int (nI (p + 10))])), (a0, .inl (E.2 0, 2640, .inl (f)))]) hA [2, 1, 0] rfl rfl (xRet_i) (by decide) (by decide) d_T_takeTen_142
abbrev rm_T_takeTen_B : Room := { frames := 4, cells := 0, slots := 0, locals := 94 }
set_option maxHeartbeats 4000000 in
set_option maxRecDepth 100000 in
theorem c_T_takeTen_B (l : Launch) (E : xE) (hr h0 : Nat) (fo plus first : Bool) (sl bd wr mk rw : Nat) (a0 n p : Nat) (f : Nat → Int32) (hp : p + 10 ≤ n) (hn : n ≤ 2640) (hb : ∀ i, i < n → f i = 0 ∨ f i = 1) (hm : mk < 4) (hw : rw < 4) (h1 : decF (ahN f p 10) plus = none) (h2 : decF (ahN f p 10) (!plus) = none) : xC l E y_T_takeTen (.code y_T_takeTen prog_6_method_7_code 6 (some .int)) rm_T_takeTen_B [.ref hr] [(hr, .inr (2, [.ref h0, .int (bI fo), .int (nI (sl)), .int (nI (bd)), .int (nI (wr)), .int (bI plus), .int (bI first), .int (nI (mk)), .int (nI (rw))])), (h0, .inr (0, [.ref a0, .int (nI (n)), .int (nI (p))])), (a0, .inl (E.2 0, 2640, .inl (f)))] (xRet (some (.int (-2))) [(hr, .inr (2, [.ref h0, .int (bI (fkF fo mk)), .int (nI (sl)), .int (nI (bd + 1)), .int (nI (wr)), .int (bI (pbT (ahN f p 10) (plus))), .int (nI 0), .int (nI (mkF mk)), .int (nI 0)])), (h0, .inr (0, [.ref a0, .int (nI (n)), .int (nI (p + 10))])), (a0, .inl (E.2 0, 2640, .inl (f)))]) := by
  refine x_of' (own := "LineCoder$TenReceiver") (mn := "takeTen") (lv := [(0, .ref hr)]) (plainFor_of_name (by decide)) rfl rfl (Nat.le_of_ble_eq_true rfl) rfl ?_
  intro p_ e_ s_ m_ ar_ be_ me_ c_ A_ hA hB
  refine x_aload_n 1 hB d_T_takeTen_0 rfl rfl ?_
  refine x_get 4 hB 0 fg_T_32_2 rfl rfl d_T_takeTen_1 rfl ?_
  refine x_bipush (v := nI 10) 6 hB d_T_takeTen_4 rfl (by decide) ?_
  refine x_callP (k' := 0) (n' := 0) (rest := []) (st' := [.int (ahF f p 10)]) 9 hB (x_pfV (av := [.int (nI 10)]) (q0 := 1) hB w_169 xHd_code w_166 w_167 w_168 rfl rfl nm_L_ahead rfl d_T_takeTen_6) (c_L_ahead l E h0 a0 n p f 10 hp hn hb) w_169 xHd_code w_2 [1, 2] rfl rfl ⟨by decide, by decide⟩ ⟨by decide, by decide⟩ rfl rfl (Nat.le_of_ble_eq_true rfl) d_T_takeTen_6 rfl rfl ?_
  refine x_top (v' := .int (nI (ahN f p 10))) (congrArg Value.int (ah_e hb 10 (by omega) hp)) ?_
  refine x_istore_n 10 hB d_T_takeTen_9 rfl (by decide) (lv' := [(1, .int (nI (ahN f p 10))), (0, .ref hr)]) rfl ?_
  refine x_aload_n 11 hB d_T_takeTen_10 rfl rfl ?_
  refine x_get 14 hB 0 fg_T_32_2 rfl rfl d_T_takeTen_11 rfl ?_
  refine x_bipush (v := nI 10) 16 hB d_T_takeTen_14 rfl (by decide) ?_
  refine x_callD (k' := 0) (n' := 0) (rest := []) (wr := [(hr, .inr (2, [.ref h0, .int (bI fo), .int (nI (sl)), .int (nI (bd)), .int (nI (wr)), .int (bI plus), .int (bI first), .int (nI (mk)), .int (nI (rw))])), (a0, .inl (E.2 0, 2640, .inl (f)))]) (ws' := [(hr, .inr (2, [.ref h0, .int (bI fo), .int (nI (sl)), .int (nI (bd)), .int (nI (wr)), .int (bI plus), .int (bI first), .int (nI (mk)), .int (nI (rw))])), (a0, .inl (E.2 0, 2640, .inl (f))), (h0, .inr (0, [.ref a0, .int (nI (n)), .int (nI (p + 10))]))]) (st' := []) 19 hB (x_pfV (av := [.int (nI 10)]) (q0 := 1) hB w_187 xHd_code w_196 w_185 w_186 rfl rfl nm_L_advance rfl d_T_takeTen_16) (c_L_advance l E h0 a0 n p 10 hp hn) w_187 xHd_code w_2 [1] [0, 2] rfl rfl rfl rfl (by decide) ⟨by decide, by decide⟩ ⟨by decide, by decide⟩ rfl rfl (Nat.le_of_ble_eq_true rfl) d_T_takeTen_16 rfl rfl rfl ?_
  refine x_iload_n 20 hB d_T_takeTen_19 rfl rfl ?_
  refine x_aload_n 21 hB d_T_takeTen_20 rfl rfl ?_
  refine x_get 24 hB 0 fg_T_9_2 rfl rfl d_T_takeTen_21 rfl ?_
  refine x_callP (k' := 0) (n' := 0) (rest := []) (st' := [.int (oI (decF (ahN f p 10) plus))]) 27 hB (x_pfS (av := [.int (nI (ahN f p 10)), .int (bI plus)]) hB w_199 xHd_code w_8 w_197 w_198 nm_K_decode rfl d_T_takeTen_24) (c_K_decode l E (ahN f p 10) (ahN_lt f p 10) plus) w_199 xHd_code w_8 [] rfl rfl ⟨by decide, by decide⟩ ⟨by decide, by decide⟩ rfl rfl (Nat.le_of_ble_eq_true rfl) d_T_takeTen_24 rfl rfl ?_
  refine x_top (v' := .int ((-1 : Int32))) (congrArg Value.int (by rw [h1]; rfl)) ?_
  refine x_istore_n 28 hB d_T_takeTen_27 rfl (by decide) (lv' := [(2, .int ((-1 : Int32))), (1, .int (nI (ahN f p 10))), (0, .ref hr)]) rfl ?_
  refine x_iload_n 29 hB d_T_takeTen_28 rfl rfl ?_
  refine x_iconst (v := (-1 : Int32)) 30 hB d_T_takeTen_29 rfl (by decide) ?_
  refine x_icmp_eq 37 33 hB d_T_takeTen_30 (by decide) rfl (fun _ => ?_) (fun hc => absurd (rfl) hc)
  refine x_join 50 (fun _u : Unit => True) (fun _u : Unit => [(hr, .inr (2, [.ref h0, .int (bI fo), .int (nI (sl)), .int (nI (bd)), .int (nI (wr)), .int (bI plus), .int (bI first), .int (nI (mk)), .int (nI (rw))])), (a0, .inl (E.2 0, 2640, .inl (f))), (h0, .inr (0, [.ref a0, .int (nI (n)), .int (nI (p + 10))]))]) (fun _u : Unit => [(0, .ref hr), (1, .int (nI (ahN f p 10))), (2, .int ((-1 : Int32)))]) (fun _u : Unit => [.int (bI (!plus)), .int (nI (ahN f p 10))]) (fun _u hJ50 => ?_) (fun J50 => ?_)
  · skip
    refine x_callP (k' := 0) (n' := 0) (rest := []) (st' := [.int (oI (decF (ahN f p 10) (!plus)))]) 53 hB (x_pfS (av := [.int (nI (ahN f p 10)), .int (bI (!plus))]) hB w_199 xHd_code w_8 w_197 w_198 nm_K_decode rfl d_T_takeTen_50) (c_K_decode l E (ahN f p 10) (ahN_lt f p 10) (!plus)) w_199 xHd_code w_8 [] rfl rfl ⟨by decide, by decide⟩ ⟨by decide, by decide⟩ rfl rfl (Nat.le_of_ble_eq_true rfl) d_T_takeTen_50 rfl rfl ?_
    refine x_top (v' := .int ((-1 : Int32))) (congrArg Value.int (by rw [h2]; rfl)) ?_
    refine x_istore_n 54 hB d_T_takeTen_53 rfl (by decide) (lv' := [(3, .int ((-1 : Int32))), (0, .ref hr), (1, .int (nI (ahN f p 10))), (2, .int ((-1 : Int32)))]) rfl ?_
    refine x_iload_n 55 hB d_T_takeTen_54 rfl rfl ?_
    refine x_iconst (v := (-1 : Int32)) 56 hB d_T_takeTen_55 rfl (by decide) ?_
    refine x_icmp_ne 68 59 hB d_T_takeTen_56 (by decide) rfl (fun hc => absurd (rfl) hc) (fun _ => ?_)
    refine x_iload_n 60 hB d_T_takeTen_59 rfl rfl ?_
    refine x_iconst (v := (-1 : Int32)) 61 hB d_T_takeTen_60 rfl (by decide) ?_
    refine x_icmp_eq 68 64 hB d_T_takeTen_61 (by decide) rfl (fun _ => ?_) (fun hc => absurd (rfl) hc)
    refine x_iconst (v := nI 0) 69 hB d_T_takeTen_68 rfl (by decide) ?_
    refine x_istore 71 hB d_T_takeTen_69 rfl (by decide) (lv' := [(4, .int (nI 0)), (3, .int ((-1 : Int32))), (0, .ref hr), (1, .int (nI (ahN f p 10))), (2, .int ((-1 : Int32)))]) rfl ?_
    refine x_iload 73 hB d_T_takeTen_71 rfl rfl ?_
    refine x_if_eq 87 76 hB d_T_takeTen_73 (by decide) rfl (fun _ => ?_) (fun hc => absurd (by decide) hc)
    refine x_iconst (v := nI 0) 88 hB d_T_takeTen_87 rfl (by decide) ?_
    refine x_istore 90 hB d_T_takeTen_88 rfl (by decide) (lv' := [(5, .int (nI 0)), (4, .int (nI 0)), (3, .int ((-1 : Int32))), (0, .ref hr), (1, .int (nI (ahN f p 10))), (2, .int ((-1 : Int32)))]) rfl ?_
    refine x_iload 92 hB d_T_takeTen_90 rfl rfl ?_
    refine x_if_eq 118 95 hB d_T_takeTen_92 (by decide) rfl (fun _ => ?_) (fun hc => absurd (by decide) hc)
    refine x_aload_n 119 hB d_T_takeTen_118 rfl rfl ?_
    refine x_iconst (v := nI 0) 120 hB d_T_takeTen_119 rfl (by decide) ?_
    refine x_put 123 hB 0 (ws' := [(hr, .inr (2, [.ref h0, .int (bI fo), .int (nI (sl)), .int (nI (bd)), .int (nI (wr)), .int (bI plus), .int (nI 0), .int (nI (mk)), .int (nI (rw))])), (a0, .inl (E.2 0, 2640, .inl (f))), (h0, .inr (0, [.ref a0, .int (nI (n)), .int (nI (p + 10))]))]) fp_T_15_2 rfl (rfl) (rfl) (Nat.le_of_ble_eq_true rfl) rfl d_T_takeTen_120 rfl ?_
    refine x_aload_n 124 hB d_T_takeTen_123 rfl rfl ?_
    refine x_iload_n 125 hB d_T_takeTen_124 rfl rfl ?_
    refine x_aload_n 126 hB d_T_takeTen_125 rfl rfl ?_
    refine x_get 129 hB 0 fg_T_9_2 rfl rfl d_T_takeTen_126 rfl ?_
    refine x_callP (k' := 0) (n' := 0) (rest := [.ref hr]) (st' := [.int (bI (pbT (ahN f p 10) (plus))), .ref hr]) 132 hB (x_pfS (av := [.int (nI (ahN f p 10)), .int (bI plus)]) hB w_235 xHd_code w_8 w_233 w_234 nm_K_plusBehind rfl d_T_takeTen_129) (c_K_plusBehind l E (ahN f p 10) (ahN_lt f p 10) (plus)) w_235 xHd_code w_8 [] rfl rfl ⟨by decide, by decide⟩ ⟨by decide, by decide⟩ rfl rfl (Nat.le_of_ble_eq_true rfl) d_T_takeTen_129 rfl rfl ?_
    refine x_put 135 hB 0 (ws' := [(hr, .inr (2, [.ref h0, .int (bI fo), .int (nI (sl)), .int (nI (bd)), .int (nI (wr)), .int (bI (pbT (ahN f p 10) (plus))), .int (nI 0), .int (nI (mk)), .int (nI (rw))])), (a0, .inl (E.2 0, 2640, .inl (f))), (h0, .inr (0, [.ref a0, .int (nI (n)), .int (nI (p + 10))]))]) fp_T_9_2 rfl (nrb _) (by cases (pbT (ahN f p 10) (plus)) <;> rfl) (Nat.le_of_ble_eq_true rfl) rfl d_T_takeTen_132 rfl ?_
    refine x_aload_n 136 hB d_T_takeTen_135 rfl rfl ?_
    refine x_iload_n 137 hB d_T_takeTen_136 rfl rfl ?_
    refine x_iload 139 hB d_T_takeTen_137 rfl rfl ?_
    refine x_callD (k' := 0) (n' := 0) (rest := []) (wr := [(a0, .inl (E.2 0, 2640, .inl (f))), (h0, .inr (0, [.ref a0, .int (nI (n)), .int (nI (p + 10))]))]) (ws' := [(a0, .inl (E.2 0, 2640, .inl (f))), (h0, .inr (0, [.ref a0, .int (nI (n)), .int (nI (p + 10))])), (hr, .inr (2, [.ref h0, .int (bI (fkF fo mk)), .int (nI (sl)), .int (nI (bd + 1)), .int (nI (wr)), .int (bI (pbT (ahN f p 10) (plus))), .int (nI 0), .int (nI (mkF mk)), .int (nI 0)]))]) (st' := [.int (-2)]) 142 hB (x_pfV (av := [.int ((-1 : Int32)), .int (nI 0)]) (q0 := 0) hB w_242 xHd_code w_239 w_241 s_T_judge rfl rfl nm_T_judge rfl d_T_takeTen_139) (c_T_judge_n l E hr h0 fo (pbT (ahN f p 10) (plus)) false sl bd wr mk rw hm (nI 0)) w_242 xHd_code w_4 [0] [1, 2] rfl rfl rfl rfl (by decide) ⟨by decide, by decide⟩ ⟨by decide, by decide⟩ rfl rfl (Nat.le_of_ble_eq_true rfl) d_T_takeTen_139 rfl rfl rfl ?_
    exact x_iret hB (w' := [(hr, .inr (2, [.ref h0, .int (bI (fkF fo mk)), .int (nI (sl)), .int (nI (bd + 1)), .int (nI (wr)), .int (bI (pbT (ahN f p 10) (plus))), .int (nI 0), .int (nI (mkF mk)), .int (nI 0)])), (h0, .inr (0, [.ref a0, .int (nI (n)), .int (nI (p + 10))])), (a0, .inl (E.2 0, 2640, .inl (f)))]) hA [2, 1, 0] rfl rfl (xRet_i) (by decide) (by decide) d_T_takeTen_142
  refine x_iload_n 38 hB d_T_takeTen_37 rfl rfl ?_
  refine x_aload_n 39 hB d_T_takeTen_38 rfl rfl ?_
  refine x_get 42 hB 0 fg_T_9_2 rfl rfl d_T_takeTen_39 rfl ?_
  refine x_if_ne 49 45 hB d_T_takeTen_42 (by decide) rfl (fun h42 => ?_) (fun h42 => ?_)
  · skip
    have k42 : plus = true := bI_1 h42
    refine x_iconst (v := nI 0) 50 hB d_T_takeTen_49 rfl (by decide) ?_
    refine x_top (v' := .int (bI (!plus))) (congrArg Value.int (by rw [k42]; rfl)) ?_
    refine x_lv (lv' := [(0, .ref hr), (1, .int (nI (ahN f p 10))), (2, .int ((-1 : Int32)))]) [2, 1, 0] rfl ?_
    exact J50 () trivial
  · skip
    have k42 : plus = false := bI_0 h42
    refine x_iconst (v := nI 1) 46 hB d_T_takeTen_45 rfl (by decide) ?_
    refine x_top (v' := .int (bI (!plus))) (congrArg Value.int (by rw [k42]; rfl)) ?_
    refine x_goto 50 hB d_T_takeTen_46 (by decide) ?_
    refine x_lv (lv' := [(0, .ref hr), (1, .int (nI (ahN f p 10))), (2, .int ((-1 : Int32)))]) [2, 1, 0] rfl ?_
    exact J50 () trivial
abbrev rm_T_takeTen_C : Room := { frames := 4, cells := 0, slots := 0, locals := 94 }
set_option maxHeartbeats 4000000 in
set_option maxRecDepth 100000 in
theorem c_T_takeTen_C (l : Launch) (E : xE) (hr h0 : Nat) (fo plus : Bool) (sl bd wr mk rw : Nat) (a0 n p : Nat) (f : Nat → Int32) (hp : p + 10 ≤ n) (hn : n ≤ 2640) (hb : ∀ i, i < n → f i = 0 ∨ f i = 1) (hm : mk < 4) (hw : rw < 4) (y : Nat) (hy : y < 512) (h1 : decF (ahN f p 10) plus = none) (h2 : decF (ahN f p 10) (!plus) = some y) : xC l E y_T_takeTen (.code y_T_takeTen prog_6_method_7_code 6 (some .int)) rm_T_takeTen_C [.ref hr] [(hr, .inr (2, [.ref h0, .int (bI fo), .int (nI (sl)), .int (nI (bd)), .int (nI (wr)), .int (bI plus), .int (nI 1), .int (nI (mk)), .int (nI (rw))])), (h0, .inr (0, [.ref a0, .int (nI (n)), .int (nI (p))])), (a0, .inl (E.2 0, 2640, .inl (f)))] (xRet (some (.int (nI (y)))) [(hr, .inr (2, [.ref h0, .int (bI fo), .int (nI (sl)), .int (nI (bd)), .int (nI (wr)), .int (bI (pbT (ahN f p 10) (!plus))), .int (nI 0), .int (nI (mpF mk rw)), .int (nI (rwF rw))])), (h0, .inr (0, [.ref a0, .int (nI (n)), .int (nI (p + 10))])), (a0, .inl (E.2 0, 2640, .inl (f)))]) := by
  refine x_of' (own := "LineCoder$TenReceiver") (mn := "takeTen") (lv := [(0, .ref hr)]) (plainFor_of_name (by decide)) rfl rfl (Nat.le_of_ble_eq_true rfl) rfl ?_
  intro p_ e_ s_ m_ ar_ be_ me_ c_ A_ hA hB
  refine x_aload_n 1 hB d_T_takeTen_0 rfl rfl ?_
  refine x_get 4 hB 0 fg_T_32_2 rfl rfl d_T_takeTen_1 rfl ?_
  refine x_bipush (v := nI 10) 6 hB d_T_takeTen_4 rfl (by decide) ?_
  refine x_callP (k' := 0) (n' := 0) (rest := []) (st' := [.int (ahF f p 10)]) 9 hB (x_pfV (av := [.int (nI 10)]) (q0 := 1) hB w_169 xHd_code w_166 w_167 w_168 rfl rfl nm_L_ahead rfl d_T_takeTen_6) (c_L_ahead l E h0 a0 n p f 10 hp hn hb) w_169 xHd_code w_2 [1, 2] rfl rfl ⟨by decide, by decide⟩ ⟨by decide, by decide⟩ rfl rfl (Nat.le_of_ble_eq_true rfl) d_T_takeTen_6 rfl rfl ?_
  refine x_top (v' := .int (nI (ahN f p 10))) (congrArg Value.int (ah_e hb 10 (by omega) hp)) ?_
  refine x_istore_n 10 hB d_T_takeTen_9 rfl (by decide) (lv' := [(1, .int (nI (ahN f p 10))), (0, .ref hr)]) rfl ?_
  refine x_aload_n 11 hB d_T_takeTen_10 rfl rfl ?_
  refine x_get 14 hB 0 fg_T_32_2 rfl rfl d_T_takeTen_11 rfl ?_
  refine x_bipush (v := nI 10) 16 hB d_T_takeTen_14 rfl (by decide) ?_
  refine x_callD (k' := 0) (n' := 0) (rest := []) (wr := [(hr, .inr (2, [.ref h0, .int (bI fo), .int (nI (sl)), .int (nI (bd)), .int (nI (wr)), .int (bI plus), .int (nI 1), .int (nI (mk)), .int (nI (rw))])), (a0, .inl (E.2 0, 2640, .inl (f)))]) (ws' := [(hr, .inr (2, [.ref h0, .int (bI fo), .int (nI (sl)), .int (nI (bd)), .int (nI (wr)), .int (bI plus), .int (nI 1), .int (nI (mk)), .int (nI (rw))])), (a0, .inl (E.2 0, 2640, .inl (f))), (h0, .inr (0, [.ref a0, .int (nI (n)), .int (nI (p + 10))]))]) (st' := []) 19 hB (x_pfV (av := [.int (nI 10)]) (q0 := 1) hB w_187 xHd_code w_196 w_185 w_186 rfl rfl nm_L_advance rfl d_T_takeTen_16) (c_L_advance l E h0 a0 n p 10 hp hn) w_187 xHd_code w_2 [1] [0, 2] rfl rfl rfl rfl (by decide) ⟨by decide, by decide⟩ ⟨by decide, by decide⟩ rfl rfl (Nat.le_of_ble_eq_true rfl) d_T_takeTen_16 rfl rfl rfl ?_
  refine x_iload_n 20 hB d_T_takeTen_19 rfl rfl ?_
  refine x_aload_n 21 hB d_T_takeTen_20 rfl rfl ?_
  refine x_get 24 hB 0 fg_T_9_2 rfl rfl d_T_takeTen_21 rfl ?_
  refine x_callP (k' := 0) (n' := 0) (rest := []) (st' := [.int (oI (decF (ahN f p 10) plus))]) 27 hB (x_pfS (av := [.int (nI (ahN f p 10)), .int (bI plus)]) hB w_199 xHd_code w_8 w_197 w_198 nm_K_decode rfl d_T_takeTen_24) (c_K_decode l E (ahN f p 10) (ahN_lt f p 10) plus) w_199 xHd_code w_8 [] rfl rfl ⟨by decide, by decide⟩ ⟨by decide, by decide⟩ rfl rfl (Nat.le_of_ble_eq_true rfl) d_T_takeTen_24 rfl rfl ?_
  refine x_top (v' := .int ((-1 : Int32))) (congrArg Value.int (by rw [h1]; rfl)) ?_
  refine x_istore_n 28 hB d_T_takeTen_27 rfl (by decide) (lv' := [(2, .int ((-1 : Int32))), (1, .int (nI (ahN f p 10))), (0, .ref hr)]) rfl ?_
  refine x_iload_n 29 hB d_T_takeTen_28 rfl rfl ?_
  refine x_iconst (v := (-1 : Int32)) 30 hB d_T_takeTen_29 rfl (by decide) ?_
  refine x_icmp_eq 37 33 hB d_T_takeTen_30 (by decide) rfl (fun _ => ?_) (fun hc => absurd (rfl) hc)
  refine x_join 50 (fun _u : Unit => True) (fun _u : Unit => [(hr, .inr (2, [.ref h0, .int (bI fo), .int (nI (sl)), .int (nI (bd)), .int (nI (wr)), .int (bI plus), .int (nI 1), .int (nI (mk)), .int (nI (rw))])), (a0, .inl (E.2 0, 2640, .inl (f))), (h0, .inr (0, [.ref a0, .int (nI (n)), .int (nI (p + 10))]))]) (fun _u : Unit => [(0, .ref hr), (1, .int (nI (ahN f p 10))), (2, .int ((-1 : Int32)))]) (fun _u : Unit => [.int (bI (!plus)), .int (nI (ahN f p 10))]) (fun _u hJ50 => ?_) (fun J50 => ?_)
  · skip
    refine x_callP (k' := 0) (n' := 0) (rest := []) (st' := [.int (oI (decF (ahN f p 10) (!plus)))]) 53 hB (x_pfS (av := [.int (nI (ahN f p 10)), .int (bI (!plus))]) hB w_199 xHd_code w_8 w_197 w_198 nm_K_decode rfl d_T_takeTen_50) (c_K_decode l E (ahN f p 10) (ahN_lt f p 10) (!plus)) w_199 xHd_code w_8 [] rfl rfl ⟨by decide, by decide⟩ ⟨by decide, by decide⟩ rfl rfl (Nat.le_of_ble_eq_true rfl) d_T_takeTen_50 rfl rfl ?_
    refine x_top (v' := .int (nI (y))) (congrArg Value.int (by rw [h2]; rfl)) ?_
    refine x_istore_n 54 hB d_T_takeTen_53 rfl (by decide) (lv' := [(3, .int (nI (y))), (0, .ref hr), (1, .int (nI (ahN f p 10))), (2, .int ((-1 : Int32)))]) rfl ?_
    refine x_iload_n 55 hB d_T_takeTen_54 rfl rfl ?_
    refine x_iconst (v := (-1 : Int32)) 56 hB d_T_takeTen_55 rfl (by decide) ?_
    refine x_icmp_ne 68 59 hB d_T_takeTen_56 (by decide) rfl (fun hc => absurd (rfl) hc) (fun _ => ?_)
    refine x_iload_n 60 hB d_T_takeTen_59 rfl rfl ?_
    refine x_iconst (v := (-1 : Int32)) 61 hB d_T_takeTen_60 rfl (by decide) ?_
    refine x_icmp_eq 68 64 hB d_T_takeTen_61 (by decide) rfl (fun hc => absurd hc (nI_m1 (by omega))) (fun _ => ?_)
    refine x_iconst (v := nI 1) 65 hB d_T_takeTen_64 rfl (by decide) ?_
    refine x_goto 69 hB d_T_takeTen_65 (by decide) ?_
    refine x_istore 71 hB d_T_takeTen_69 rfl (by decide) (lv' := [(4, .int (nI 1)), (3, .int (nI (y))), (0, .ref hr), (1, .int (nI (ahN f p 10))), (2, .int ((-1 : Int32)))]) rfl ?_
    refine x_iload 73 hB d_T_takeTen_71 rfl rfl ?_
    refine x_if_eq 87 76 hB d_T_takeTen_73 (by decide) rfl (fun hc => absurd hc (by decide)) (fun _ => ?_)
    refine x_aload_n 77 hB d_T_takeTen_76 rfl rfl ?_
    refine x_get 80 hB 0 fg_T_15_2 rfl rfl d_T_takeTen_77 rfl ?_
    refine x_if_ne 87 83 hB d_T_takeTen_80 (by decide) rfl (fun _ => ?_) (fun hc => absurd hc (by decide))
    refine x_iconst (v := nI 0) 88 hB d_T_takeTen_87 rfl (by decide) ?_
    refine x_istore 90 hB d_T_takeTen_88 rfl (by decide) (lv' := [(5, .int (nI 0)), (4, .int (nI 1)), (3, .int (nI (y))), (0, .ref hr), (1, .int (nI (ahN f p 10))), (2, .int ((-1 : Int32)))]) rfl ?_
    refine x_iload 92 hB d_T_takeTen_90 rfl rfl ?_
    refine x_if_eq 118 95 hB d_T_takeTen_92 (by decide) rfl (fun hc => absurd hc (by decide)) (fun _ => ?_)
    refine x_aload_n 96 hB d_T_takeTen_95 rfl rfl ?_
    refine x_get 99 hB 0 fg_T_15_2 rfl rfl d_T_takeTen_96 rfl ?_
    refine x_if_eq 118 102 hB d_T_takeTen_99 (by decide) rfl (fun hc => absurd hc (by decide)) (fun _ => ?_)
    refine x_join 115 (fun _u : Unit => True) (fun _u : Unit => [(hr, .inr (2, [.ref h0, .int (bI fo), .int (nI (sl)), .int (nI (bd)), .int (nI (wr)), .int (bI plus), .int (nI 1), .int (nI (mk)), .int (nI (rw))])), (a0, .inl (E.2 0, 2640, .inl (f))), (h0, .inr (0, [.ref a0, .int (nI (n)), .int (nI (p + 10))]))]) (fun _u : Unit => [(0, .ref hr), (1, .int (nI (ahN f p 10))), (2, .int ((-1 : Int32))), (3, .int (nI (y))), (4, .int (nI 1)), (5, .int (nI 0))]) (fun _u : Unit => [.int (bI (!plus)), .ref hr]) (fun _u hJ115 => ?_) (fun J115 => ?_)
    · skip
      refine x_put 118 hB 0 (ws' := [(hr, .inr (2, [.ref h0, .int (bI fo), .int (nI (sl)), .int (nI (bd)), .int (nI (wr)), .int (bI (!plus)), .int (nI 1), .int (nI (mk)), .int (nI (rw))])), (a0, .inl (E.2 0, 2640, .inl (f))), (h0, .inr (0, [.ref a0, .int (nI (n)), .int (nI (p + 10))]))]) fp_T_9_2 rfl (nrb _) (by cases plus <;> rfl) (Nat.le_of_ble_eq_true rfl) rfl d_T_takeTen_115 rfl ?_
      refine x_aload_n 119 hB d_T_takeTen_118 rfl rfl ?_
      refine x_iconst (v := nI 0) 120 hB d_T_takeTen_119 rfl (by decide) ?_
      refine x_put 123 hB 0 (ws' := [(hr, .inr (2, [.ref h0, .int (bI fo), .int (nI (sl)), .int (nI (bd)), .int (nI (wr)), .int (bI (!plus)), .int (nI 0), .int (nI (mk)), .int (nI (rw))])), (a0, .inl (E.2 0, 2640, .inl (f))), (h0, .inr (0, [.ref a0, .int (nI (n)), .int (nI (p + 10))]))]) fp_T_15_2 rfl (rfl) (rfl) (Nat.le_of_ble_eq_true rfl) rfl d_T_takeTen_120 rfl ?_
      refine x_aload_n 124 hB d_T_takeTen_123 rfl rfl ?_
      refine x_iload_n 125 hB d_T_takeTen_124 rfl rfl ?_
      refine x_aload_n 126 hB d_T_takeTen_125 rfl rfl ?_
      refine x_get 129 hB 0 fg_T_9_2 rfl rfl d_T_takeTen_126 rfl ?_
      refine x_callP (k' := 0) (n' := 0) (rest := [.ref hr]) (st' := [.int (bI (pbT (ahN f p 10) (!plus))), .ref hr]) 132 hB (x_pfS (av := [.int (nI (ahN f p 10)), .int (bI (!plus))]) hB w_235 xHd_code w_8 w_233 w_234 nm_K_plusBehind rfl d_T_takeTen_129) (c_K_plusBehind l E (ahN f p 10) (ahN_lt f p 10) (!plus)) w_235 xHd_code w_8 [] rfl rfl ⟨by decide, by decide⟩ ⟨by decide, by decide⟩ rfl rfl (Nat.le_of_ble_eq_true rfl) d_T_takeTen_129 rfl rfl ?_
      refine x_put 135 hB 0 (ws' := [(hr, .inr (2, [.ref h0, .int (bI fo), .int (nI (sl)), .int (nI (bd)), .int (nI (wr)), .int (bI (pbT (ahN f p 10) (!plus))), .int (nI 0), .int (nI (mk)), .int (nI (rw))])), (a0, .inl (E.2 0, 2640, .inl (f))), (h0, .inr (0, [.ref a0, .int (nI (n)), .int (nI (p + 10))]))]) fp_T_9_2 rfl (nrb _) (by cases (pbT (ahN f p 10) (!plus)) <;> rfl) (Nat.le_of_ble_eq_true rfl) rfl d_T_takeTen_132 rfl ?_
      refine x_aload_n 136 hB d_T_takeTen_135 rfl rfl ?_
      refine x_iload_n 137 hB d_T_takeTen_136 rfl rfl ?_
      refine x_iload 139 hB d_T_takeTen_137 rfl rfl ?_
      refine x_callD (k' := 0) (n' := 0) (rest := []) (wr := [(a0, .inl (E.2 0, 2640, .inl (f))), (h0, .inr (0, [.ref a0, .int (nI (n)), .int (nI (p + 10))]))]) (ws' := [(a0, .inl (E.2 0, 2640, .inl (f))), (h0, .inr (0, [.ref a0, .int (nI (n)), .int (nI (p + 10))])), (hr, .inr (2, [.ref h0, .int (bI fo), .int (nI (sl)), .int (nI (bd)), .int (nI (wr)), .int (bI (pbT (ahN f p 10) (!plus))), .int (nI 0), .int (nI (mpF mk rw)), .int (nI (rwF rw))]))]) (st' := [.int (nI (y))]) 142 hB (x_pfV (av := [.int (nI (y)), .int (nI 0)]) (q0 := 0) hB w_242 xHd_code w_239 w_241 s_T_judge rfl rfl nm_T_judge rfl d_T_takeTen_139) (c_T_judge_g l E hr h0 fo (pbT (ahN f p 10) (!plus)) false sl bd wr mk rw hm hw y hy) w_242 xHd_code w_4 [0] [1, 2] rfl rfl rfl rfl (by decide) ⟨by decide, by decide⟩ ⟨by decide, by decide⟩ rfl rfl (Nat.le_of_ble_eq_true rfl) d_T_takeTen_139 rfl rfl rfl ?_
      exact x_iret hB (w' := [(hr, .inr (2, [.ref h0, .int (bI fo), .int (nI (sl)), .int (nI (bd)), .int (nI (wr)), .int (bI (pbT (ahN f p 10) (!plus))), .int (nI 0), .int (nI (mpF mk rw)), .int (nI (rwF rw))])), (h0, .inr (0, [.ref a0, .int (nI (n)), .int (nI (p + 10))])), (a0, .inl (E.2 0, 2640, .inl (f)))]) hA [2, 1, 0] rfl rfl (xRet_i) (by decide) (by decide) d_T_takeTen_142
    refine x_aload_n 103 hB d_T_takeTen_102 rfl rfl ?_
    refine x_aload_n 104 hB d_T_takeTen_103 rfl rfl ?_
    refine x_get 107 hB 0 fg_T_9_2 rfl rfl d_T_takeTen_104 rfl ?_
    refine x_if_ne 114 110 hB d_T_takeTen_107 (by decide) rfl (fun h107 => ?_) (fun h107 => ?_)
    · skip
      have k107 : plus = true := bI_1 h107
      refine x_iconst (v := nI 0) 115 hB d_T_takeTen_114 rfl (by decide) ?_
      refine x_top (v' := .int (bI (!plus))) (congrArg Value.int (by rw [k107]; rfl)) ?_
      refine x_lv (lv' := [(0, .ref hr), (1, .int (nI (ahN f p 10))), (2, .int ((-1 : Int32))), (3, .int (nI (y))), (4, .int (nI 1)), (5, .int (nI 0))]) [3, 4, 5, 2, 1, 0] rfl ?_
      exact J115 () trivial
    · skip
      have k107 : plus = false := bI_0 h107
      refine x_iconst (v := nI 1) 111 hB d_T_takeTen_110 rfl (by decide) ?_
      refine x_top (v' := .int (bI (!plus))) (congrArg Value.int (by rw [k107]; rfl)) ?_
      refine x_goto 115 hB d_T_takeTen_111 (by decide) ?_
      refine x_lv (lv' := [(0, .ref hr), (1, .int (nI (ahN f p 10))), (2, .int ((-1 : Int32))), (3, .int (nI (y))), (4, .int (nI 1)), (5, .int (nI 0))]) [3, 4, 5, 2, 1, 0] rfl ?_
      exact J115 () trivial
  refine x_iload_n 38 hB d_T_takeTen_37 rfl rfl ?_
  refine x_aload_n 39 hB d_T_takeTen_38 rfl rfl ?_
  refine x_get 42 hB 0 fg_T_9_2 rfl rfl d_T_takeTen_39 rfl ?_
  refine x_if_ne 49 45 hB d_T_takeTen_42 (by decide) rfl (fun h42 => ?_) (fun h42 => ?_)
  · skip
    have k42 : plus = true := bI_1 h42
    refine x_iconst (v := nI 0) 50 hB d_T_takeTen_49 rfl (by decide) ?_
    refine x_top (v' := .int (bI (!plus))) (congrArg Value.int (by rw [k42]; rfl)) ?_
    refine x_lv (lv' := [(0, .ref hr), (1, .int (nI (ahN f p 10))), (2, .int ((-1 : Int32)))]) [2, 1, 0] rfl ?_
    exact J50 () trivial
  · skip
    have k42 : plus = false := bI_0 h42
    refine x_iconst (v := nI 1) 46 hB d_T_takeTen_45 rfl (by decide) ?_
    refine x_top (v' := .int (bI (!plus))) (congrArg Value.int (by rw [k42]; rfl)) ?_
    refine x_goto 50 hB d_T_takeTen_46 (by decide) ?_
    refine x_lv (lv' := [(0, .ref hr), (1, .int (nI (ahN f p 10))), (2, .int ((-1 : Int32)))]) [2, 1, 0] rfl ?_
    exact J50 () trivial
abbrev rm_T_takeTen_D : Room := { frames := 4, cells := 0, slots := 0, locals := 94 }
set_option maxHeartbeats 4000000 in
set_option maxRecDepth 100000 in
theorem c_T_takeTen_D (l : Launch) (E : xE) (hr h0 : Nat) (fo plus : Bool) (sl bd wr mk rw : Nat) (a0 n p : Nat) (f : Nat → Int32) (hp : p + 10 ≤ n) (hn : n ≤ 2640) (hb : ∀ i, i < n → f i = 0 ∨ f i = 1) (hm : mk < 4) (hw : rw < 4) (y : Nat) (hy : y < 512) (h1 : decF (ahN f p 10) plus = none) (h2 : decF (ahN f p 10) (!plus) = some y) : xC l E y_T_takeTen (.code y_T_takeTen prog_6_method_7_code 6 (some .int)) rm_T_takeTen_D [.ref hr] [(hr, .inr (2, [.ref h0, .int (bI fo), .int (nI (sl)), .int (nI (bd)), .int (nI (wr)), .int (bI plus), .int (nI 0), .int (nI (mk)), .int (nI (rw))])), (h0, .inr (0, [.ref a0, .int (nI (n)), .int (nI (p))])), (a0, .inl (E.2 0, 2640, .inl (f)))] (xRet (some (.int (nI (y + 512)))) [(hr, .inr (2, [.ref h0, .int (bI (fkF fo mk)), .int (nI (sl)), .int (nI (bd)), .int (nI (wr + 1)), .int (bI (pbT (ahN f p 10) (plus))), .int (nI 0), .int (nI (mkF mk)), .int (nI 0)])), (h0, .inr (0, [.ref a0, .int (nI (n)), .int (nI (p + 10))])), (a0, .inl (E.2 0, 2640, .inl (f)))]) := by
  refine x_of' (own := "LineCoder$TenReceiver") (mn := "takeTen") (lv := [(0, .ref hr)]) (plainFor_of_name (by decide)) rfl rfl (Nat.le_of_ble_eq_true rfl) rfl ?_
  intro p_ e_ s_ m_ ar_ be_ me_ c_ A_ hA hB
  refine x_aload_n 1 hB d_T_takeTen_0 rfl rfl ?_
  refine x_get 4 hB 0 fg_T_32_2 rfl rfl d_T_takeTen_1 rfl ?_
  refine x_bipush (v := nI 10) 6 hB d_T_takeTen_4 rfl (by decide) ?_
  refine x_callP (k' := 0) (n' := 0) (rest := []) (st' := [.int (ahF f p 10)]) 9 hB (x_pfV (av := [.int (nI 10)]) (q0 := 1) hB w_169 xHd_code w_166 w_167 w_168 rfl rfl nm_L_ahead rfl d_T_takeTen_6) (c_L_ahead l E h0 a0 n p f 10 hp hn hb) w_169 xHd_code w_2 [1, 2] rfl rfl ⟨by decide, by decide⟩ ⟨by decide, by decide⟩ rfl rfl (Nat.le_of_ble_eq_true rfl) d_T_takeTen_6 rfl rfl ?_
  refine x_top (v' := .int (nI (ahN f p 10))) (congrArg Value.int (ah_e hb 10 (by omega) hp)) ?_
  refine x_istore_n 10 hB d_T_takeTen_9 rfl (by decide) (lv' := [(1, .int (nI (ahN f p 10))), (0, .ref hr)]) rfl ?_
  refine x_aload_n 11 hB d_T_takeTen_10 rfl rfl ?_
  refine x_get 14 hB 0 fg_T_32_2 rfl rfl d_T_takeTen_11 rfl ?_
  refine x_bipush (v := nI 10) 16 hB d_T_takeTen_14 rfl (by decide) ?_
  refine x_callD (k' := 0) (n' := 0) (rest := []) (wr := [(hr, .inr (2, [.ref h0, .int (bI fo), .int (nI (sl)), .int (nI (bd)), .int (nI (wr)), .int (bI plus), .int (nI 0), .int (nI (mk)), .int (nI (rw))])), (a0, .inl (E.2 0, 2640, .inl (f)))]) (ws' := [(hr, .inr (2, [.ref h0, .int (bI fo), .int (nI (sl)), .int (nI (bd)), .int (nI (wr)), .int (bI plus), .int (nI 0), .int (nI (mk)), .int (nI (rw))])), (a0, .inl (E.2 0, 2640, .inl (f))), (h0, .inr (0, [.ref a0, .int (nI (n)), .int (nI (p + 10))]))]) (st' := []) 19 hB (x_pfV (av := [.int (nI 10)]) (q0 := 1) hB w_187 xHd_code w_196 w_185 w_186 rfl rfl nm_L_advance rfl d_T_takeTen_16) (c_L_advance l E h0 a0 n p 10 hp hn) w_187 xHd_code w_2 [1] [0, 2] rfl rfl rfl rfl (by decide) ⟨by decide, by decide⟩ ⟨by decide, by decide⟩ rfl rfl (Nat.le_of_ble_eq_true rfl) d_T_takeTen_16 rfl rfl rfl ?_
  refine x_iload_n 20 hB d_T_takeTen_19 rfl rfl ?_
  refine x_aload_n 21 hB d_T_takeTen_20 rfl rfl ?_
  refine x_get 24 hB 0 fg_T_9_2 rfl rfl d_T_takeTen_21 rfl ?_
  refine x_callP (k' := 0) (n' := 0) (rest := []) (st' := [.int (oI (decF (ahN f p 10) plus))]) 27 hB (x_pfS (av := [.int (nI (ahN f p 10)), .int (bI plus)]) hB w_199 xHd_code w_8 w_197 w_198 nm_K_decode rfl d_T_takeTen_24) (c_K_decode l E (ahN f p 10) (ahN_lt f p 10) plus) w_199 xHd_code w_8 [] rfl rfl ⟨by decide, by decide⟩ ⟨by decide, by decide⟩ rfl rfl (Nat.le_of_ble_eq_true rfl) d_T_takeTen_24 rfl rfl ?_
  refine x_top (v' := .int ((-1 : Int32))) (congrArg Value.int (by rw [h1]; rfl)) ?_
  refine x_istore_n 28 hB d_T_takeTen_27 rfl (by decide) (lv' := [(2, .int ((-1 : Int32))), (1, .int (nI (ahN f p 10))), (0, .ref hr)]) rfl ?_
  refine x_iload_n 29 hB d_T_takeTen_28 rfl rfl ?_
  refine x_iconst (v := (-1 : Int32)) 30 hB d_T_takeTen_29 rfl (by decide) ?_
  refine x_icmp_eq 37 33 hB d_T_takeTen_30 (by decide) rfl (fun _ => ?_) (fun hc => absurd (rfl) hc)
  refine x_join 50 (fun _u : Unit => True) (fun _u : Unit => [(hr, .inr (2, [.ref h0, .int (bI fo), .int (nI (sl)), .int (nI (bd)), .int (nI (wr)), .int (bI plus), .int (nI 0), .int (nI (mk)), .int (nI (rw))])), (a0, .inl (E.2 0, 2640, .inl (f))), (h0, .inr (0, [.ref a0, .int (nI (n)), .int (nI (p + 10))]))]) (fun _u : Unit => [(0, .ref hr), (1, .int (nI (ahN f p 10))), (2, .int ((-1 : Int32)))]) (fun _u : Unit => [.int (bI (!plus)), .int (nI (ahN f p 10))]) (fun _u hJ50 => ?_) (fun J50 => ?_)
  · skip
    refine x_callP (k' := 0) (n' := 0) (rest := []) (st' := [.int (oI (decF (ahN f p 10) (!plus)))]) 53 hB (x_pfS (av := [.int (nI (ahN f p 10)), .int (bI (!plus))]) hB w_199 xHd_code w_8 w_197 w_198 nm_K_decode rfl d_T_takeTen_50) (c_K_decode l E (ahN f p 10) (ahN_lt f p 10) (!plus)) w_199 xHd_code w_8 [] rfl rfl ⟨by decide, by decide⟩ ⟨by decide, by decide⟩ rfl rfl (Nat.le_of_ble_eq_true rfl) d_T_takeTen_50 rfl rfl ?_
    refine x_top (v' := .int (nI (y))) (congrArg Value.int (by rw [h2]; rfl)) ?_
    refine x_istore_n 54 hB d_T_takeTen_53 rfl (by decide) (lv' := [(3, .int (nI (y))), (0, .ref hr), (1, .int (nI (ahN f p 10))), (2, .int ((-1 : Int32)))]) rfl ?_
    refine x_iload_n 55 hB d_T_takeTen_54 rfl rfl ?_
    refine x_iconst (v := (-1 : Int32)) 56 hB d_T_takeTen_55 rfl (by decide) ?_
    refine x_icmp_ne 68 59 hB d_T_takeTen_56 (by decide) rfl (fun hc => absurd (rfl) hc) (fun _ => ?_)
    refine x_iload_n 60 hB d_T_takeTen_59 rfl rfl ?_
    refine x_iconst (v := (-1 : Int32)) 61 hB d_T_takeTen_60 rfl (by decide) ?_
    refine x_icmp_eq 68 64 hB d_T_takeTen_61 (by decide) rfl (fun hc => absurd hc (nI_m1 (by omega))) (fun _ => ?_)
    refine x_iconst (v := nI 1) 65 hB d_T_takeTen_64 rfl (by decide) ?_
    refine x_goto 69 hB d_T_takeTen_65 (by decide) ?_
    refine x_istore 71 hB d_T_takeTen_69 rfl (by decide) (lv' := [(4, .int (nI 1)), (3, .int (nI (y))), (0, .ref hr), (1, .int (nI (ahN f p 10))), (2, .int ((-1 : Int32)))]) rfl ?_
    refine x_iload 73 hB d_T_takeTen_71 rfl rfl ?_
    refine x_if_eq 87 76 hB d_T_takeTen_73 (by decide) rfl (fun hc => absurd hc (by decide)) (fun _ => ?_)
    refine x_aload_n 77 hB d_T_takeTen_76 rfl rfl ?_
    refine x_get 80 hB 0 fg_T_15_2 rfl rfl d_T_takeTen_77 rfl ?_
    refine x_if_ne 87 83 hB d_T_takeTen_80 (by decide) rfl (fun hc => absurd (by decide) hc) (fun _ => ?_)
    refine x_iconst (v := nI 1) 84 hB d_T_takeTen_83 rfl (by decide) ?_
    refine x_goto 88 hB d_T_takeTen_84 (by decide) ?_
    refine x_istore 90 hB d_T_takeTen_88 rfl (by decide) (lv' := [(5, .int (nI 1)), (4, .int (nI 1)), (3, .int (nI (y))), (0, .ref hr), (1, .int (nI (ahN f p 10))), (2, .int ((-1 : Int32)))]) rfl ?_
    refine x_iload 92 hB d_T_takeTen_90 rfl rfl ?_
    refine x_if_eq 118 95 hB d_T_takeTen_92 (by decide) rfl (fun hc => absurd hc (by decide)) (fun _ => ?_)
    refine x_aload_n 96 hB d_T_takeTen_95 rfl rfl ?_
    refine x_get 99 hB 0 fg_T_15_2 rfl rfl d_T_takeTen_96 rfl ?_
    refine x_if_eq 118 102 hB d_T_takeTen_99 (by decide) rfl (fun _ => ?_) (fun hc => absurd (by decide) hc)
    refine x_aload_n 119 hB d_T_takeTen_118 rfl rfl ?_
    refine x_iconst (v := nI 0) 120 hB d_T_takeTen_119 rfl (by decide) ?_
    refine x_put 123 hB 0 (ws' := [(hr, .inr (2, [.ref h0, .int (bI fo), .int (nI (sl)), .int (nI (bd)), .int (nI (wr)), .int (bI plus), .int (nI 0), .int (nI (mk)), .int (nI (rw))])), (a0, .inl (E.2 0, 2640, .inl (f))), (h0, .inr (0, [.ref a0, .int (nI (n)), .int (nI (p + 10))]))]) fp_T_15_2 rfl (rfl) (rfl) (Nat.le_of_ble_eq_true rfl) rfl d_T_takeTen_120 rfl ?_
    refine x_aload_n 124 hB d_T_takeTen_123 rfl rfl ?_
    refine x_iload_n 125 hB d_T_takeTen_124 rfl rfl ?_
    refine x_aload_n 126 hB d_T_takeTen_125 rfl rfl ?_
    refine x_get 129 hB 0 fg_T_9_2 rfl rfl d_T_takeTen_126 rfl ?_
    refine x_callP (k' := 0) (n' := 0) (rest := [.ref hr]) (st' := [.int (bI (pbT (ahN f p 10) (plus))), .ref hr]) 132 hB (x_pfS (av := [.int (nI (ahN f p 10)), .int (bI plus)]) hB w_235 xHd_code w_8 w_233 w_234 nm_K_plusBehind rfl d_T_takeTen_129) (c_K_plusBehind l E (ahN f p 10) (ahN_lt f p 10) (plus)) w_235 xHd_code w_8 [] rfl rfl ⟨by decide, by decide⟩ ⟨by decide, by decide⟩ rfl rfl (Nat.le_of_ble_eq_true rfl) d_T_takeTen_129 rfl rfl ?_
    refine x_put 135 hB 0 (ws' := [(hr, .inr (2, [.ref h0, .int (bI fo), .int (nI (sl)), .int (nI (bd)), .int (nI (wr)), .int (bI (pbT (ahN f p 10) (plus))), .int (nI 0), .int (nI (mk)), .int (nI (rw))])), (a0, .inl (E.2 0, 2640, .inl (f))), (h0, .inr (0, [.ref a0, .int (nI (n)), .int (nI (p + 10))]))]) fp_T_9_2 rfl (nrb _) (by cases (pbT (ahN f p 10) (plus)) <;> rfl) (Nat.le_of_ble_eq_true rfl) rfl d_T_takeTen_132 rfl ?_
    refine x_aload_n 136 hB d_T_takeTen_135 rfl rfl ?_
    refine x_iload_n 137 hB d_T_takeTen_136 rfl rfl ?_
    refine x_iload 139 hB d_T_takeTen_137 rfl rfl ?_
    refine x_callD (k' := 0) (n' := 0) (rest := []) (wr := [(a0, .inl (E.2 0, 2640, .inl (f))), (h0, .inr (0, [.ref a0, .int (nI (n)), .int (nI (p + 10))]))]) (ws' := [(a0, .inl (E.2 0, 2640, .inl (f))), (h0, .inr (0, [.ref a0, .int (nI (n)), .int (nI (p + 10))])), (hr, .inr (2, [.ref h0, .int (bI (fkF fo mk)), .int (nI (sl)), .int (nI (bd)), .int (nI (wr + 1)), .int (bI (pbT (ahN f p 10) (plus))), .int (nI 0), .int (nI (mkF mk)), .int (nI 0)]))]) (st' := [.int (nI (y + 512))]) 142 hB (x_pfV (av := [.int (nI (y)), .int (nI 1)]) (q0 := 0) hB w_242 xHd_code w_239 w_241 s_T_judge rfl rfl nm_T_judge rfl d_T_takeTen_139) (c_T_judge_w l E hr h0 fo (pbT (ahN f p 10) (plus)) false sl bd wr mk rw hm y hy) w_242 xHd_code w_4 [0] [1, 2] rfl rfl rfl rfl (by decide) ⟨by decide, by decide⟩ ⟨by decide, by decide⟩ rfl rfl (Nat.le_of_ble_eq_true rfl) d_T_takeTen_139 rfl rfl rfl ?_
    exact x_iret hB (w' := [(hr, .inr (2, [.ref h0, .int (bI (fkF fo mk)), .int (nI (sl)), .int (nI (bd)), .int (nI (wr + 1)), .int (bI (pbT (ahN f p 10) (plus))), .int (nI 0), .int (nI (mkF mk)), .int (nI 0)])), (h0, .inr (0, [.ref a0, .int (nI (n)), .int (nI (p + 10))])), (a0, .inl (E.2 0, 2640, .inl (f)))]) hA [2, 1, 0] rfl rfl (xRet_i) (by decide) (by decide) d_T_takeTen_142
  refine x_iload_n 38 hB d_T_takeTen_37 rfl rfl ?_
  refine x_aload_n 39 hB d_T_takeTen_38 rfl rfl ?_
  refine x_get 42 hB 0 fg_T_9_2 rfl rfl d_T_takeTen_39 rfl ?_
  refine x_if_ne 49 45 hB d_T_takeTen_42 (by decide) rfl (fun h42 => ?_) (fun h42 => ?_)
  · skip
    have k42 : plus = true := bI_1 h42
    refine x_iconst (v := nI 0) 50 hB d_T_takeTen_49 rfl (by decide) ?_
    refine x_top (v' := .int (bI (!plus))) (congrArg Value.int (by rw [k42]; rfl)) ?_
    refine x_lv (lv' := [(0, .ref hr), (1, .int (nI (ahN f p 10))), (2, .int ((-1 : Int32)))]) [2, 1, 0] rfl ?_
    exact J50 () trivial
  · skip
    have k42 : plus = false := bI_0 h42
    refine x_iconst (v := nI 1) 46 hB d_T_takeTen_45 rfl (by decide) ?_
    refine x_top (v' := .int (bI (!plus))) (congrArg Value.int (by rw [k42]; rfl)) ?_
    refine x_goto 50 hB d_T_takeTen_46 (by decide) ?_
    refine x_lv (lv' := [(0, .ref hr), (1, .int (nI (ahN f p 10))), (2, .int ((-1 : Int32)))]) [2, 1, 0] rfl ?_
    exact J50 () trivial
