abbrev rm_L_size : Room := { frames := 0, cells := 0, slots := 0, locals := 0 }
set_option maxHeartbeats 4000000 in
set_option maxRecDepth 100000 in
theorem c_L_size (l : Launch) (E : xE) (h0 a0 n p : Nat) : xC l E y_L_size (.code y_L_size prog_2_method_3_code 1 (some .int)) rm_L_size [.ref h0] [(h0, .inr (0, [.ref a0, .int (nI (n)), .int (nI (p))]))] (xRet (some (.int (nI (n)))) [(h0, .inr (0, [.ref a0, .int (nI (n)), .int (nI (p))]))]) := by
  refine x_of' (own := "LineCoder$Line") (mn := "size") (lv := [(0, .ref h0)]) (by decide) rfl rfl (Nat.le_of_ble_eq_true rfl) rfl ?_
  intro p_ e_ s_ m_ ar_ be_ me_ c_ A_ hA hB
  refine x_aload_n 1 hB d_L_size_0 rfl rfl ?_
  refine x_get 4 hB 0 fg_L_15_0 rfl rfl d_L_size_1 rfl ?_
  exact x_iret hB (w' := [(h0, .inr (0, [.ref a0, .int (nI (n)), .int (nI (p))]))]) hA [0] rfl rfl (xRet_i) (by decide) (by decide) d_L_size_4
abbrev rm_L_place : Room := { frames := 0, cells := 0, slots := 0, locals := 0 }
set_option maxHeartbeats 4000000 in
set_option maxRecDepth 100000 in
theorem c_L_place (l : Launch) (E : xE) (h0 a0 n p : Nat) : xC l E y_L_place (.code y_L_place prog_2_method_4_code 1 (some .int)) rm_L_place [.ref h0] [(h0, .inr (0, [.ref a0, .int (nI (n)), .int (nI (p))]))] (xRet (some (.int (nI (p)))) [(h0, .inr (0, [.ref a0, .int (nI (n)), .int (nI (p))]))]) := by
  refine x_of' (own := "LineCoder$Line") (mn := "place") (lv := [(0, .ref h0)]) (by decide) rfl rfl (Nat.le_of_ble_eq_true rfl) rfl ?_
  intro p_ e_ s_ m_ ar_ be_ me_ c_ A_ hA hB
  refine x_aload_n 1 hB d_L_place_0 rfl rfl ?_
  refine x_get 4 hB 0 fg_L_19_0 rfl rfl d_L_place_1 rfl ?_
  exact x_iret hB (w' := [(h0, .inr (0, [.ref a0, .int (nI (n)), .int (nI (p))]))]) hA [0] rfl rfl (xRet_i) (by decide) (by decide) d_L_place_4
abbrev rm_L_left : Room := { frames := 0, cells := 0, slots := 0, locals := 0 }
set_option maxHeartbeats 4000000 in
set_option maxRecDepth 100000 in
theorem c_L_left (l : Launch) (E : xE) (h0 a0 n p : Nat) (hp : p ≤ n) : xC l E y_L_left (.code y_L_left prog_2_method_5_code 1 (some .int)) rm_L_left [.ref h0] [(h0, .inr (0, [.ref a0, .int (nI (n)), .int (nI (p))]))] (xRet (some (.int (nI (n - p)))) [(h0, .inr (0, [.ref a0, .int (nI (n)), .int (nI (p))]))]) := by
  refine x_of' (own := "LineCoder$Line") (mn := "left") (lv := [(0, .ref h0)]) (by decide) rfl rfl (Nat.le_of_ble_eq_true rfl) rfl ?_
  intro p_ e_ s_ m_ ar_ be_ me_ c_ A_ hA hB
  refine x_aload_n 1 hB d_L_left_0 rfl rfl ?_
  refine x_get 4 hB 0 fg_L_15_0 rfl rfl d_L_left_1 rfl ?_
  refine x_aload_n 5 hB d_L_left_4 rfl rfl ?_
  refine x_get 8 hB 0 fg_L_19_0 rfl rfl d_L_left_5 rfl ?_
  refine x_isub 9 hB d_L_left_8 rfl ?_
  refine x_top (v' := .int (nI (n - p))) (congrArg Value.int (pk_sub hp)) ?_
  exact x_iret hB (w' := [(h0, .inr (0, [.ref a0, .int (nI (n)), .int (nI (p))]))]) hA [0] rfl rfl (xRet_i) (by decide) (by decide) d_L_left_9
abbrev rm_L_empty : Room := { frames := 0, cells := 0, slots := 0, locals := 0 }
set_option maxHeartbeats 4000000 in
set_option maxRecDepth 100000 in
theorem c_L_empty (l : Launch) (E : xE) (h0 a0 n p : Nat) : xC l E y_L_empty (.code y_L_empty prog_2_method_2_code 1 none) rm_L_empty [.ref h0] [(h0, .inr (0, [.ref a0, .int (nI (n)), .int (nI (p))]))] (xRet none [(h0, .inr (0, [.ref a0, .int (nI (0)), .int (nI (0))]))]) := by
  refine x_of' (own := "LineCoder$Line") (mn := "empty") (lv := [(0, .ref h0)]) (by decide) rfl rfl (Nat.le_of_ble_eq_true rfl) rfl ?_
  intro p_ e_ s_ m_ ar_ be_ me_ c_ A_ hA hB
  refine x_aload_n 1 hB d_L_empty_0 rfl rfl ?_
  refine x_iconst (v := nI 0) 2 hB d_L_empty_1 rfl (by decide) ?_
  refine x_put 5 hB 0 (ws' := [(h0, .inr (0, [.ref a0, .int (nI 0), .int (nI (p))]))]) fp_L_15_0 rfl (rfl) (rfl) (Nat.le_of_ble_eq_true rfl) rfl d_L_empty_2 rfl ?_
  refine x_aload_n 6 hB d_L_empty_5 rfl rfl ?_
  refine x_iconst (v := nI 0) 7 hB d_L_empty_6 rfl (by decide) ?_
  refine x_put 10 hB 0 (ws' := [(h0, .inr (0, [.ref a0, .int (nI 0), .int (nI 0)]))]) fp_L_19_0 rfl (rfl) (rfl) (Nat.le_of_ble_eq_true rfl) rfl d_L_empty_7 rfl ?_
  exact x_vret hB (w' := [(h0, .inr (0, [.ref a0, .int (nI 0), .int (nI 0)]))]) hA [0] rfl rfl (xRet_i) (by decide) (by decide) d_L_empty_10
abbrev rm_L_has_in : Room := { frames := 0, cells := 0, slots := 0, locals := 0 }
set_option maxHeartbeats 4000000 in
set_option maxRecDepth 100000 in
theorem c_L_has_in (l : Launch) (E : xE) (h0 a0 n p : Nat) (j : Nat) (hj : j < n) (hn : n ≤ 2640) : xC l E y_L_has (.code y_L_has prog_2_method_6_code 2 (some .boolean)) rm_L_has_in [.ref h0, .int (nI (j))] [(h0, .inr (0, [.ref a0, .int (nI (n)), .int (nI (p))]))] (xRet (some (.int (nI 1))) [(h0, .inr (0, [.ref a0, .int (nI (n)), .int (nI (p))]))]) := by
  refine x_of' (own := "LineCoder$Line") (mn := "has") (lv := [(0, .ref h0), (1, .int (nI (j)))]) (by decide) rfl rfl (Nat.le_of_ble_eq_true rfl) rfl ?_
  intro p_ e_ s_ m_ ar_ be_ me_ c_ A_ hA hB
  refine x_iload_n 1 hB d_L_has_0 rfl rfl ?_
  refine x_if_lt 16 4 hB d_L_has_1 (by decide) rfl (fun hc => absurd hc (nI_pos (by omega))) (fun _ => ?_)
  refine x_iload_n 5 hB d_L_has_4 rfl rfl ?_
  refine x_aload_n 6 hB d_L_has_5 rfl rfl ?_
  refine x_get 9 hB 0 fg_L_15_0 rfl rfl d_L_has_6 rfl ?_
  refine x_icmp_ge 16 12 hB d_L_has_9 (by decide) rfl (fun hc => absurd hc (nI_ge hj (by omega))) (fun _ => ?_)
  refine x_iconst (v := nI 1) 13 hB d_L_has_12 rfl (by decide) ?_
  refine x_goto 17 hB d_L_has_13 (by decide) ?_
  exact x_zret hB (by decide) (w' := [(h0, .inr (0, [.ref a0, .int (nI (n)), .int (nI (p))]))]) hA [0] rfl rfl (xRet_i) (by decide) (by decide) d_L_has_17
abbrev rm_L_has_out : Room := { frames := 0, cells := 0, slots := 0, locals := 0 }
set_option maxHeartbeats 4000000 in
set_option maxRecDepth 100000 in
theorem c_L_has_out (l : Launch) (E : xE) (h0 a0 n p : Nat) (k : Int32) (hk : k < 0 ∨ nI n ≤ k) : xC l E y_L_has (.code y_L_has prog_2_method_6_code 2 (some .boolean)) rm_L_has_out [.ref h0, .int (k)] [(h0, .inr (0, [.ref a0, .int (nI (n)), .int (nI (p))]))] (xRet (some (.int (nI 0))) [(h0, .inr (0, [.ref a0, .int (nI (n)), .int (nI (p))]))]) := by
  refine x_of' (own := "LineCoder$Line") (mn := "has") (lv := [(0, .ref h0), (1, .int (k))]) (by decide) rfl rfl (Nat.le_of_ble_eq_true rfl) rfl ?_
  intro p_ e_ s_ m_ ar_ be_ me_ c_ A_ hA hB
  refine x_iload_n 1 hB d_L_has_0 rfl rfl ?_
  refine x_if_lt 16 4 hB d_L_has_1 (by decide) rfl (fun h1 => ?_) (fun h1 => ?_)
  · skip
    refine x_iconst (v := nI 0) 17 hB d_L_has_16 rfl (by decide) ?_
    exact x_zret hB (by decide) (w' := [(h0, .inr (0, [.ref a0, .int (nI (n)), .int (nI (p))]))]) hA [0] rfl rfl (xRet_i) (by decide) (by decide) d_L_has_17
  · skip
    refine x_iload_n 5 hB d_L_has_4 rfl rfl ?_
    refine x_aload_n 6 hB d_L_has_5 rfl rfl ?_
    refine x_get 9 hB 0 fg_L_15_0 rfl rfl d_L_has_6 rfl ?_
    refine x_icmp_ge 16 12 hB d_L_has_9 (by decide) rfl (fun _ => ?_) (fun hc => absurd (hk.resolve_left h1) hc)
    refine x_iconst (v := nI 0) 17 hB d_L_has_16 rfl (by decide) ?_
    exact x_zret hB (by decide) (w' := [(h0, .inr (0, [.ref a0, .int (nI (n)), .int (nI (p))]))]) hA [0] rfl rfl (xRet_i) (by decide) (by decide) d_L_has_17
abbrev rm_L_hasRoom_y : Room := { frames := 0, cells := 0, slots := 0, locals := 0 }
set_option maxHeartbeats 4000000 in
set_option maxRecDepth 100000 in
theorem c_L_hasRoom_y (l : Launch) (E : xE) (h0 a0 n p : Nat) (q : Nat) (hq : n + q ≤ 2640) : xC l E y_L_hasRoom (.code y_L_hasRoom prog_2_method_7_code 2 (some .boolean)) rm_L_hasRoom_y [.ref h0, .int (nI (q))] [(h0, .inr (0, [.ref a0, .int (nI (n)), .int (nI (p))]))] (xRet (some (.int (nI 1))) [(h0, .inr (0, [.ref a0, .int (nI (n)), .int (nI (p))]))]) := by
  refine x_of' (own := "LineCoder$Line") (mn := "hasRoom") (lv := [(0, .ref h0), (1, .int (nI (q)))]) (by decide) rfl rfl (Nat.le_of_ble_eq_true rfl) rfl ?_
  intro p_ e_ s_ m_ ar_ be_ me_ c_ A_ hA hB
  refine x_iload_n 1 hB d_L_hasRoom_0 rfl rfl ?_
  refine x_sipush (v := nI 2640) 4 hB d_L_hasRoom_1 rfl (by decide) ?_
  refine x_aload_n 5 hB d_L_hasRoom_4 rfl rfl ?_
  refine x_get 8 hB 0 fg_L_15_0 rfl rfl d_L_hasRoom_5 rfl ?_
  refine x_isub 9 hB d_L_hasRoom_8 rfl ?_
  refine x_top (v' := .int (nI (2640 - n))) (congrArg Value.int (pk_sub (by omega))) ?_
  refine x_icmp_gt 16 12 hB d_L_hasRoom_9 (by decide) rfl (fun hc => absurd hc (nI_nlt (by omega) (by omega))) (fun _ => ?_)
  refine x_iconst (v := nI 1) 13 hB d_L_hasRoom_12 rfl (by decide) ?_
  refine x_goto 17 hB d_L_hasRoom_13 (by decide) ?_
  exact x_zret hB (by decide) (w' := [(h0, .inr (0, [.ref a0, .int (nI (n)), .int (nI (p))]))]) hA [0] rfl rfl (xRet_i) (by decide) (by decide) d_L_hasRoom_17
abbrev rm_L_hasRoom_n : Room := { frames := 0, cells := 0, slots := 0, locals := 0 }
set_option maxHeartbeats 4000000 in
set_option maxRecDepth 100000 in
theorem c_L_hasRoom_n (l : Launch) (E : xE) (h0 a0 n p : Nat) (q : Nat) (hn : n ≤ 2640) (hq : 2640 < n + q) (hq2 : q ≤ 66) : xC l E y_L_hasRoom (.code y_L_hasRoom prog_2_method_7_code 2 (some .boolean)) rm_L_hasRoom_n [.ref h0, .int (nI (q))] [(h0, .inr (0, [.ref a0, .int (nI (n)), .int (nI (p))]))] (xRet (some (.int (nI 0))) [(h0, .inr (0, [.ref a0, .int (nI (n)), .int (nI (p))]))]) := by
  refine x_of' (own := "LineCoder$Line") (mn := "hasRoom") (lv := [(0, .ref h0), (1, .int (nI (q)))]) (by decide) rfl rfl (Nat.le_of_ble_eq_true rfl) rfl ?_
  intro p_ e_ s_ m_ ar_ be_ me_ c_ A_ hA hB
  refine x_iload_n 1 hB d_L_hasRoom_0 rfl rfl ?_
  refine x_sipush (v := nI 2640) 4 hB d_L_hasRoom_1 rfl (by decide) ?_
  refine x_aload_n 5 hB d_L_hasRoom_4 rfl rfl ?_
  refine x_get 8 hB 0 fg_L_15_0 rfl rfl d_L_hasRoom_5 rfl ?_
  refine x_isub 9 hB d_L_hasRoom_8 rfl ?_
  refine x_top (v' := .int (nI (2640 - n))) (congrArg Value.int (pk_sub (by omega))) ?_
  refine x_icmp_gt 16 12 hB d_L_hasRoom_9 (by decide) rfl (fun _ => ?_) (fun hc => absurd (nI_lt (by omega) (by omega)) hc)
  refine x_iconst (v := nI 0) 17 hB d_L_hasRoom_16 rfl (by decide) ?_
  exact x_zret hB (by decide) (w' := [(h0, .inr (0, [.ref a0, .int (nI (n)), .int (nI (p))]))]) hA [0] rfl rfl (xRet_i) (by decide) (by decide) d_L_hasRoom_17
abbrev rm_L_at_in : Room := { frames := 1, cells := 0, slots := 0, locals := 21 }
set_option maxHeartbeats 4000000 in
set_option maxRecDepth 100000 in
theorem c_L_at_in (l : Launch) (E : xE) (h0 a0 n p : Nat) (f : Nat → Int32) (j : Nat) (hj : j < n) (hn : n ≤ 2640) : xC l E y_L_at (.code y_L_at prog_2_method_8_code 2 (some .int)) rm_L_at_in [.ref h0, .int (nI (j))] [(h0, .inr (0, [.ref a0, .int (nI (n)), .int (nI (p))])), (a0, .inl (E.2 0, 2640, .inl (f)))] (xRet (some (.int ((f) (j)))) [(h0, .inr (0, [.ref a0, .int (nI (n)), .int (nI (p))])), (a0, .inl (E.2 0, 2640, .inl (f)))]) := by
  refine x_of' (own := "LineCoder$Line") (mn := "at") (lv := [(0, .ref h0), (1, .int (nI (j)))]) (by decide) rfl rfl (Nat.le_of_ble_eq_true rfl) rfl ?_
  intro p_ e_ s_ m_ ar_ be_ me_ c_ A_ hA hB
  refine x_aload_n 1 hB d_L_at_0 rfl rfl ?_
  refine x_iload_n 2 hB d_L_at_1 rfl rfl ?_
  refine x_callD (rest := []) (wr := [(a0, .inl (E.2 0, 2640, .inl (f)))]) (ws' := [(a0, .inl (E.2 0, 2640, .inl (f))), (h0, .inr (0, [.ref a0, .int (nI (n)), .int (nI (p))]))]) (st' := [.int (nI 1)]) 5 hB (x_pfV (av := [.int (nI (j))]) (q0 := 0) hB w_177 xHd_code w_174 w_175 w_176 rfl rfl nm_L_has rfl d_L_at_2) (c_L_has_in l E h0 a0 n p j hj hn) w_177 xHd_code w_2 [0] [1] rfl rfl rfl rfl (by decide) ⟨by decide, by decide⟩ ⟨by decide, by decide⟩ rfl rfl (Nat.le_of_ble_eq_true rfl) d_L_at_2 rfl rfl rfl ?_
  refine x_if_eq 17 8 hB d_L_at_5 (by decide) rfl (fun hc => absurd hc (by decide)) (fun _ => ?_)
  refine x_aload_n 9 hB d_L_at_8 rfl rfl ?_
  refine x_get 12 hB 1 fg_L_11_0 rfl rfl d_L_at_9 rfl ?_
  refine x_iload_n 13 hB d_L_at_12 rfl rfl ?_
  refine x_bald 14 hB 0 rfl (by omega) (by decide) d_L_at_13 rfl ?_
  refine x_goto 18 hB d_L_at_14 (by decide) ?_
  exact x_iret hB (w' := [(h0, .inr (0, [.ref a0, .int (nI (n)), .int (nI (p))])), (a0, .inl (E.2 0, 2640, .inl (f)))]) hA [1, 0] rfl rfl (xRet_i) (by decide) (by decide) d_L_at_18
abbrev rm_L_at_out : Room := { frames := 1, cells := 0, slots := 0, locals := 21 }
set_option maxHeartbeats 4000000 in
set_option maxRecDepth 100000 in
theorem c_L_at_out (l : Launch) (E : xE) (h0 a0 n p : Nat) (f : Nat → Int32) (k : Int32) (hk : k < 0 ∨ nI n ≤ k) : xC l E y_L_at (.code y_L_at prog_2_method_8_code 2 (some .int)) rm_L_at_out [.ref h0, .int (k)] [(h0, .inr (0, [.ref a0, .int (nI (n)), .int (nI (p))])), (a0, .inl (E.2 0, 2640, .inl (f)))] (xRet (some (.int (-1))) [(h0, .inr (0, [.ref a0, .int (nI (n)), .int (nI (p))])), (a0, .inl (E.2 0, 2640, .inl (f)))]) := by
  refine x_of' (own := "LineCoder$Line") (mn := "at") (lv := [(0, .ref h0), (1, .int (k))]) (by decide) rfl rfl (Nat.le_of_ble_eq_true rfl) rfl ?_
  intro p_ e_ s_ m_ ar_ be_ me_ c_ A_ hA hB
  refine x_aload_n 1 hB d_L_at_0 rfl rfl ?_
  refine x_iload_n 2 hB d_L_at_1 rfl rfl ?_
  refine x_callD (rest := []) (wr := [(a0, .inl (E.2 0, 2640, .inl (f)))]) (ws' := [(a0, .inl (E.2 0, 2640, .inl (f))), (h0, .inr (0, [.ref a0, .int (nI (n)), .int (nI (p))]))]) (st' := [.int (nI 0)]) 5 hB (x_pfV (av := [.int (k)]) (q0 := 0) hB w_177 xHd_code w_174 w_175 w_176 rfl rfl nm_L_has rfl d_L_at_2) (c_L_has_out l E h0 a0 n p k hk) w_177 xHd_code w_2 [0] [1] rfl rfl rfl rfl (by decide) ⟨by decide, by decide⟩ ⟨by decide, by decide⟩ rfl rfl (Nat.le_of_ble_eq_true rfl) d_L_at_2 rfl rfl rfl ?_
  refine x_if_eq 17 8 hB d_L_at_5 (by decide) rfl (fun _ => ?_) (fun hc => absurd (by decide) hc)
  refine x_iconst (v := (-1 : Int32)) 18 hB d_L_at_17 rfl (by decide) ?_
  exact x_iret hB (w' := [(h0, .inr (0, [.ref a0, .int (nI (n)), .int (nI (p))])), (a0, .inl (E.2 0, 2640, .inl (f)))]) hA [1, 0] rfl rfl (xRet_i) (by decide) (by decide) d_L_at_18
abbrev rm_L_turn : Room := { frames := 1, cells := 0, slots := 0, locals := 21 }
set_option maxHeartbeats 4000000 in
set_option maxRecDepth 100000 in
theorem c_L_turn (l : Launch) (E : xE) (h0 a0 n p : Nat) (f : Nat → Int32) (j : Nat) (hj : j < n) (hn : n ≤ 2640) (hb : f j = 0 ∨ f j = 1) : xC l E y_L_turn (.code y_L_turn prog_2_method_9_code 2 none) rm_L_turn [.ref h0, .int (nI (j))] [(h0, .inr (0, [.ref a0, .int (nI (n)), .int (nI (p))])), (a0, .inl (E.2 0, 2640, .inl (f)))] (xRet none [(h0, .inr (0, [.ref a0, .int (nI (n)), .int (nI (p))])), (a0, .inl (E.2 0, 2640, .inl (upd f j (1 - f j))))]) := by
  refine x_of' (own := "LineCoder$Line") (mn := "turn") (lv := [(0, .ref h0), (1, .int (nI (j)))]) (by decide) rfl rfl (Nat.le_of_ble_eq_true rfl) rfl ?_
  intro p_ e_ s_ m_ ar_ be_ me_ c_ A_ hA hB
  refine x_aload_n 1 hB d_L_turn_0 rfl rfl ?_
  refine x_iload_n 2 hB d_L_turn_1 rfl rfl ?_
  refine x_callD (rest := []) (wr := [(a0, .inl (E.2 0, 2640, .inl (f)))]) (ws' := [(a0, .inl (E.2 0, 2640, .inl (f))), (h0, .inr (0, [.ref a0, .int (nI (n)), .int (nI (p))]))]) (st' := [.int (nI 1)]) 5 hB (x_pfV (av := [.int (nI (j))]) (q0 := 0) hB w_177 xHd_code w_174 w_175 w_176 rfl rfl nm_L_has rfl d_L_turn_2) (c_L_has_in l E h0 a0 n p j hj hn) w_177 xHd_code w_2 [0] [1] rfl rfl rfl rfl (by decide) ⟨by decide, by decide⟩ ⟨by decide, by decide⟩ rfl rfl (Nat.le_of_ble_eq_true rfl) d_L_turn_2 rfl rfl rfl ?_
  refine x_if_eq 23 8 hB d_L_turn_5 (by decide) rfl (fun hc => absurd hc (by decide)) (fun _ => ?_)
  refine x_aload_n 9 hB d_L_turn_8 rfl rfl ?_
  refine x_get 12 hB 1 fg_L_11_0 rfl rfl d_L_turn_9 rfl ?_
  refine x_iload_n 13 hB d_L_turn_12 rfl rfl ?_
  refine x_iconst (v := nI 1) 14 hB d_L_turn_13 rfl (by decide) ?_
  refine x_aload_n 15 hB d_L_turn_14 rfl rfl ?_
  refine x_get 18 hB 1 fg_L_11_0 rfl rfl d_L_turn_15 rfl ?_
  refine x_iload_n 19 hB d_L_turn_18 rfl rfl ?_
  refine x_bald 20 hB 0 rfl (by omega) (by decide) d_L_turn_19 rfl ?_
  refine x_isub 21 hB d_L_turn_20 rfl ?_
  refine x_i2b (v := 1 - f j) 22 hB d_L_turn_21 rfl (by rcases hb with h | h <;> rw [h] <;> decide) ?_
  refine x_bast 23 hB 0 (ws' := [(a0, .inl (E.2 0, 2640, .inl (upd f j (1 - f j)))), (h0, .inr (0, [.ref a0, .int (nI (n)), .int (nI (p))]))]) rfl (by omega) (by decide) (x' := 1 - f j) (by rcases hb with h | h <;> rw [h] <;> decide) rfl d_L_turn_22 rfl ?_
  exact x_vret hB (w' := [(h0, .inr (0, [.ref a0, .int (nI (n)), .int (nI (p))])), (a0, .inl (E.2 0, 2640, .inl (upd f j (1 - f j))))]) hA [1, 0] rfl rfl (xRet_i) (by decide) (by decide) d_L_turn_23
