abbrev rm_L_size : Room := { frames := 0, cells := 0, slots := 0, locals := 0 }
set_option maxHeartbeats 4000000 in
set_option maxRecDepth 100000 in
theorem c_L_size (l : Launch) (E : xE) (h0 a0 n p : Nat) : xCp l E y_L_size (.code y_L_size prog_2_method_3_code 1 (some .int)) rm_L_size [.ref h0] [(h0, .inr (0, [.ref a0, .int (nI (n)), .int (nI (p))]))] (.inl (some (.int (nI (n))))) := by
  refine x_ofP (own := "LineCoder$Line") (mn := "size") (lv := [(0, .ref h0)]) (plainFor_of_name (by decide)) rfl rfl (Nat.le_of_ble_eq_true rfl) rfl ?_
  intro p_ e_ s_ m_ ar_ be_ me_ c_ hB
  refine x_aload_n 1 hB d_L_size_0 rfl rfl ?_
  refine x_get 4 hB 0 fg_L_15_0 rfl rfl d_L_size_1 rfl ?_
  exact x_iretP hB (rfl) (by decide) (by decide) d_L_size_4
abbrev rm_L_place : Room := { frames := 0, cells := 0, slots := 0, locals := 0 }
set_option maxHeartbeats 4000000 in
set_option maxRecDepth 100000 in
theorem c_L_place (l : Launch) (E : xE) (h0 a0 n p : Nat) : xCp l E y_L_place (.code y_L_place prog_2_method_4_code 1 (some .int)) rm_L_place [.ref h0] [(h0, .inr (0, [.ref a0, .int (nI (n)), .int (nI (p))]))] (.inl (some (.int (nI (p))))) := by
  refine x_ofP (own := "LineCoder$Line") (mn := "place") (lv := [(0, .ref h0)]) (plainFor_of_name (by decide)) rfl rfl (Nat.le_of_ble_eq_true rfl) rfl ?_
  intro p_ e_ s_ m_ ar_ be_ me_ c_ hB
  refine x_aload_n 1 hB d_L_place_0 rfl rfl ?_
  refine x_get 4 hB 0 fg_L_19_0 rfl rfl d_L_place_1 rfl ?_
  exact x_iretP hB (rfl) (by decide) (by decide) d_L_place_4
abbrev rm_L_left : Room := { frames := 0, cells := 0, slots := 0, locals := 0 }
set_option maxHeartbeats 4000000 in
set_option maxRecDepth 100000 in
theorem c_L_left (l : Launch) (E : xE) (h0 a0 n p : Nat) (hp : p ≤ n) : xCp l E y_L_left (.code y_L_left prog_2_method_5_code 1 (some .int)) rm_L_left [.ref h0] [(h0, .inr (0, [.ref a0, .int (nI (n)), .int (nI (p))]))] (.inl (some (.int (nI (n - p))))) := by
  refine x_ofP (own := "LineCoder$Line") (mn := "left") (lv := [(0, .ref h0)]) (plainFor_of_name (by decide)) rfl rfl (Nat.le_of_ble_eq_true rfl) rfl ?_
  intro p_ e_ s_ m_ ar_ be_ me_ c_ hB
  refine x_aload_n 1 hB d_L_left_0 rfl rfl ?_
  refine x_get 4 hB 0 fg_L_15_0 rfl rfl d_L_left_1 rfl ?_
  refine x_aload_n 5 hB d_L_left_4 rfl rfl ?_
  refine x_get 8 hB 0 fg_L_19_0 rfl rfl d_L_left_5 rfl ?_
  refine x_isub 9 hB d_L_left_8 rfl ?_
  refine x_top (v' := .int (nI (n - p))) (congrArg Value.int (pk_sub hp)) ?_
  exact x_iretP hB (rfl) (by decide) (by decide) d_L_left_9
abbrev rm_L_empty : Room := { frames := 0, cells := 0, slots := 0, locals := 0 }
set_option maxHeartbeats 4000000 in
set_option maxRecDepth 100000 in
theorem c_L_empty (l : Launch) (E : xE) (h0 a0 n p : Nat) : xC l E y_L_empty (.code y_L_empty prog_2_method_2_code 1 none) rm_L_empty [.ref h0] [(h0, .inr (0, [.ref a0, .int (nI (n)), .int (nI (p))]))] (xRet none [(h0, .inr (0, [.ref a0, .int (nI (0)), .int (nI (0))]))]) := by
  refine x_of' (own := "LineCoder$Line") (mn := "empty") (lv := [(0, .ref h0)]) (plainFor_of_name (by decide)) rfl rfl (Nat.le_of_ble_eq_true rfl) rfl ?_
  intro p_ e_ s_ m_ ar_ be_ me_ c_ A_ hA hB
  refine x_aload_n 1 hB d_L_empty_0 rfl rfl ?_
  refine x_iconst (v := nI 0) 2 hB d_L_empty_1 rfl (by decide) ?_
  refine x_put 5 hB 0 (ws' := [(h0, .inr (0, [.ref a0, .int (nI 0), .int (nI (p))]))]) fp_L_15_0 rfl (rfl) (rfl) (Nat.le_of_ble_eq_true rfl) rfl d_L_empty_2 rfl ?_
  refine x_aload_n 6 hB d_L_empty_5 rfl rfl ?_
  refine x_iconst (v := nI 0) 7 hB d_L_empty_6 rfl (by decide) ?_
  refine x_put 10 hB 0 (ws' := [(h0, .inr (0, [.ref a0, .int (nI 0), .int (nI 0)]))]) fp_L_19_0 rfl (rfl) (rfl) (Nat.le_of_ble_eq_true rfl) rfl d_L_empty_7 rfl ?_
  exact x_vret hB (w' := [(h0, .inr (0, [.ref a0, .int (nI 0), .int (nI 0)]))]) hA [0] rfl rfl (xRet_i) (by decide) (by decide) d_L_empty_10
abbrev rm_L_has_in : Room := { frames := 0, cells := 0, slots := 0, locals := 0 }
set_option maxHeartbeats 4000000 in
set_option maxRecDepth 100000 in
theorem c_L_has_in (l : Launch) (E : xE) (h0 a0 n p : Nat) (j : Nat) (hj : j < n) (hn : n ≤ 2640) : xCp l E y_L_has (.code y_L_has prog_2_method_6_code 2 (some .boolean)) rm_L_has_in [.ref h0, .int (nI (j))] [(h0, .inr (0, [.ref a0, .int (nI (n)), .int (nI (p))]))] (.inl (some (.int (nI 1)))) := by
  refine x_ofP (own := "LineCoder$Line") (mn := "has") (lv := [(0, .ref h0), (1, .int (nI (j)))]) (plainFor_of_name (by decide)) rfl rfl (Nat.le_of_ble_eq_true rfl) rfl ?_
  intro p_ e_ s_ m_ ar_ be_ me_ c_ hB
  refine x_iload_n 1 hB d_L_has_0 rfl rfl ?_
  refine x_if_lt 16 4 hB d_L_has_1 (by decide) rfl (fun hc => absurd hc (nI_pos (by omega))) (fun _ => ?_)
  refine x_iload_n 5 hB d_L_has_4 rfl rfl ?_
  refine x_aload_n 6 hB d_L_has_5 rfl rfl ?_
  refine x_get 9 hB 0 fg_L_15_0 rfl rfl d_L_has_6 rfl ?_
  refine x_icmp_ge 16 12 hB d_L_has_9 (by decide) rfl (fun hc => absurd hc (nI_ge hj (by omega))) (fun _ => ?_)
  refine x_iconst (v := nI 1) 13 hB d_L_has_12 rfl (by decide) ?_
  refine x_goto 17 hB d_L_has_13 (by decide) ?_
  exact x_zretP hB (by decide) (rfl) (by decide) (by decide) d_L_has_17
abbrev rm_L_has_out : Room := { frames := 0, cells := 0, slots := 0, locals := 0 }
set_option maxHeartbeats 4000000 in
set_option maxRecDepth 100000 in
theorem c_L_has_out (l : Launch) (E : xE) (h0 a0 n p : Nat) (k : Int32) (hk : k < 0 ∨ nI n ≤ k) : xCp l E y_L_has (.code y_L_has prog_2_method_6_code 2 (some .boolean)) rm_L_has_out [.ref h0, .int (k)] [(h0, .inr (0, [.ref a0, .int (nI (n)), .int (nI (p))]))] (.inl (some (.int (nI 0)))) := by
  refine x_ofP (own := "LineCoder$Line") (mn := "has") (lv := [(0, .ref h0), (1, .int (k))]) (plainFor_of_name (by decide)) rfl rfl (Nat.le_of_ble_eq_true rfl) rfl ?_
  intro p_ e_ s_ m_ ar_ be_ me_ c_ hB
  refine x_iload_n 1 hB d_L_has_0 rfl rfl ?_
  refine x_if_lt 16 4 hB d_L_has_1 (by decide) rfl (fun h1 => ?_) (fun h1 => ?_)
  · skip
    refine x_iconst (v := nI 0) 17 hB d_L_has_16 rfl (by decide) ?_
    exact x_zretP hB (by decide) (rfl) (by decide) (by decide) d_L_has_17
  · skip
    refine x_iload_n 5 hB d_L_has_4 rfl rfl ?_
    refine x_aload_n 6 hB d_L_has_5 rfl rfl ?_
    refine x_get 9 hB 0 fg_L_15_0 rfl rfl d_L_has_6 rfl ?_
    refine x_icmp_ge 16 12 hB d_L_has_9 (by decide) rfl (fun _ => ?_) (fun hc => absurd (hk.resolve_left h1) hc)
    refine x_iconst (v := nI 0) 17 hB d_L_has_16 rfl (by decide) ?_
    exact x_zretP hB (by decide) (rfl) (by decide) (by decide) d_L_has_17
abbrev rm_L_hasRoom_y : Room := { frames := 0, cells := 0, slots := 0, locals := 0 }
set_option maxHeartbeats 4000000 in
set_option maxRecDepth 100000 in
theorem c_L_hasRoom_y (l : Launch) (E : xE) (h0 a0 n p : Nat) (q : Nat) (hq : n + q ≤ 2640) : xCp l E y_L_hasRoom (.code y_L_hasRoom prog_2_method_7_code 2 (some .boolean)) rm_L_hasRoom_y [.ref h0, .int (nI (q))] [(h0, .inr (0, [.ref a0, .int (nI (n)), .int (nI (p))]))] (.inl (some (.int (nI 1)))) := by
  refine x_ofP (own := "LineCoder$Line") (mn := "hasRoom") (lv := [(0, .ref h0), (1, .int (nI (q)))]) (plainFor_of_name (by decide)) rfl rfl (Nat.le_of_ble_eq_true rfl) rfl ?_
  intro p_ e_ s_ m_ ar_ be_ me_ c_ hB
  refine x_iload_n 1 hB d_L_hasRoom_0 rfl rfl ?_
  refine x_sipush (v := nI 2640) 4 hB d_L_hasRoom_1 rfl (by decide) ?_
  refine x_aload_n 5 hB d_L_hasRoom_4 rfl rfl ?_
  refine x_get 8 hB 0 fg_L_15_0 rfl rfl d_L_hasRoom_5 rfl ?_
  refine x_isub 9 hB d_L_hasRoom_8 rfl ?_
  refine x_top (v' := .int (nI (2640 - n))) (congrArg Value.int (pk_sub (by omega))) ?_
  refine x_icmp_gt 16 12 hB d_L_hasRoom_9 (by decide) rfl (fun hc => absurd hc (nI_nlt (by omega) (by omega))) (fun _ => ?_)
  refine x_iconst (v := nI 1) 13 hB d_L_hasRoom_12 rfl (by decide) ?_
  refine x_goto 17 hB d_L_hasRoom_13 (by decide) ?_
  exact x_zretP hB (by decide) (rfl) (by decide) (by decide) d_L_hasRoom_17
abbrev rm_L_hasRoom_n : Room := { frames := 0, cells := 0, slots := 0, locals := 0 }
set_option maxHeartbeats 4000000 in
set_option maxRecDepth 100000 in
theorem c_L_hasRoom_n (l : Launch) (E : xE) (h0 a0 n p : Nat) (q : Nat) (hn : n ≤ 2640) (hq : 2640 < n + q) (hq2 : q ≤ 66) : xCp l E y_L_hasRoom (.code y_L_hasRoom prog_2_method_7_code 2 (some .boolean)) rm_L_hasRoom_n [.ref h0, .int (nI (q))] [(h0, .inr (0, [.ref a0, .int (nI (n)), .int (nI (p))]))] (.inl (some (.int (nI 0)))) := by
  refine x_ofP (own := "LineCoder$Line") (mn := "hasRoom") (lv := [(0, .ref h0), (1, .int (nI (q)))]) (plainFor_of_name (by decide)) rfl rfl (Nat.le_of_ble_eq_true rfl) rfl ?_
  intro p_ e_ s_ m_ ar_ be_ me_ c_ hB
  refine x_iload_n 1 hB d_L_hasRoom_0 rfl rfl ?_
  refine x_sipush (v := nI 2640) 4 hB d_L_hasRoom_1 rfl (by decide) ?_
  refine x_aload_n 5 hB d_L_hasRoom_4 rfl rfl ?_
  refine x_get 8 hB 0 fg_L_15_0 rfl rfl d_L_hasRoom_5 rfl ?_
  refine x_isub 9 hB d_L_hasRoom_8 rfl ?_
  refine x_top (v' := .int (nI (2640 - n))) (congrArg Value.int (pk_sub (by omega))) ?_
  refine x_icmp_gt 16 12 hB d_L_hasRoom_9 (by decide) rfl (fun _ => ?_) (fun hc => absurd (nI_lt (by omega) (by omega)) hc)
  refine x_iconst (v := nI 0) 17 hB d_L_hasRoom_16 rfl (by decide) ?_
  exact x_zretP hB (by decide) (rfl) (by decide) (by decide) d_L_hasRoom_17
abbrev rm_L_at_in : Room := { frames := 1, cells := 0, slots := 0, locals := 21 }
set_option maxHeartbeats 4000000 in
set_option maxRecDepth 100000 in
theorem c_L_at_in (l : Launch) (E : xE) (h0 a0 n p : Nat) (f : Nat → Int32) (j : Nat) (hj : j < n) (hn : n ≤ 2640) : xCp l E y_L_at (.code y_L_at prog_2_method_8_code 2 (some .int)) rm_L_at_in [.ref h0, .int (nI (j))] [(h0, .inr (0, [.ref a0, .int (nI (n)), .int (nI (p))])), (a0, .inl (E.2 0, 2640, .inl (f)))] (.inl (some (.int ((f) (j))))) := by
  refine x_ofP (own := "LineCoder$Line") (mn := "at") (lv := [(0, .ref h0), (1, .int (nI (j)))]) (plainFor_of_name (by decide)) rfl rfl (Nat.le_of_ble_eq_true rfl) rfl ?_
  intro p_ e_ s_ m_ ar_ be_ me_ c_ hB
  refine x_aload_n 1 hB d_L_at_0 rfl rfl ?_
  refine x_iload_n 2 hB d_L_at_1 rfl rfl ?_
  refine x_callP (k' := 0) (n' := 0) (rest := []) (st' := [.int (nI 1)]) 5 hB (x_pfV (av := [.int (nI (j))]) (q0 := 0) hB w_177 xHd_code w_174 w_175 w_176 rfl rfl nm_L_has rfl d_L_at_2) (c_L_has_in l E h0 a0 n p j hj hn) w_177 xHd_code w_2 [0] rfl rfl ⟨by decide, by decide⟩ ⟨by decide, by decide⟩ rfl rfl (Nat.le_of_ble_eq_true rfl) d_L_at_2 rfl rfl ?_
  refine x_if_eq 17 8 hB d_L_at_5 (by decide) rfl (fun hc => absurd hc (by decide)) (fun _ => ?_)
  refine x_aload_n 9 hB d_L_at_8 rfl rfl ?_
  refine x_get 12 hB 0 fg_L_11_0 rfl rfl d_L_at_9 rfl ?_
  refine x_iload_n 13 hB d_L_at_12 rfl rfl ?_
  refine x_bald 14 hB 1 rfl (by omega) (by decide) d_L_at_13 rfl ?_
  refine x_goto 18 hB d_L_at_14 (by decide) ?_
  exact x_iretP hB (rfl) (by decide) (by decide) d_L_at_18
abbrev rm_L_at_out : Room := { frames := 1, cells := 0, slots := 0, locals := 21 }
set_option maxHeartbeats 4000000 in
set_option maxRecDepth 100000 in
theorem c_L_at_out (l : Launch) (E : xE) (h0 a0 n p : Nat) (f : Nat → Int32) (k : Int32) (hk : k < 0 ∨ nI n ≤ k) : xCp l E y_L_at (.code y_L_at prog_2_method_8_code 2 (some .int)) rm_L_at_out [.ref h0, .int (k)] [(h0, .inr (0, [.ref a0, .int (nI (n)), .int (nI (p))])), (a0, .inl (E.2 0, 2640, .inl (f)))] (.inl (some (.int (-1)))) := by
  refine x_ofP (own := "LineCoder$Line") (mn := "at") (lv := [(0, .ref h0), (1, .int (k))]) (plainFor_of_name (by decide)) rfl rfl (Nat.le_of_ble_eq_true rfl) rfl ?_
  intro p_ e_ s_ m_ ar_ be_ me_ c_ hB
  refine x_aload_n 1 hB d_L_at_0 rfl rfl ?_
  refine x_iload_n 2 hB d_L_at_1 rfl rfl ?_
  refine x_callP (k' := 0) (n' := 0) (rest := []) (st' := [.int (nI 0)]) 5 hB (x_pfV (av := [.int (k)]) (q0 := 0) hB w_177 xHd_code w_174 w_175 w_176 rfl rfl nm_L_has rfl d_L_at_2) (c_L_has_out l E h0 a0 n p k hk) w_177 xHd_code w_2 [0] rfl rfl ⟨by decide, by decide⟩ ⟨by decide, by decide⟩ rfl rfl (Nat.le_of_ble_eq_true rfl) d_L_at_2 rfl rfl ?_
  refine x_if_eq 17 8 hB d_L_at_5 (by decide) rfl (fun _ => ?_) (fun hc => absurd (by decide) hc)
  refine x_iconst (v := (-1 : Int32)) 18 hB d_L_at_17 rfl (by decide) ?_
  exact x_iretP hB (rfl) (by decide) (by decide) d_L_at_18
abbrev rm_L_turn : Room := { frames := 1, cells := 0, slots := 0, locals := 21 }
set_option maxHeartbeats 4000000 in
set_option maxRecDepth 100000 in
theorem c_L_turn (l : Launch) (E : xE) (h0 a0 n p : Nat) (f : Nat → Int32) (j : Nat) (hj : j < n) (hn : n ≤ 2640) (hb : f j = 0 ∨ f j = 1) : xC l E y_L_turn (.code y_L_turn prog_2_method_9_code 2 none) rm_L_turn [.ref h0, .int (nI (j))] [(h0, .inr (0, [.ref a0, .int (nI (n)), .int (nI (p))])), (a0, .inl (E.2 0, 2640, .inl (f)))] (xRet none [(h0, .inr (0, [.ref a0, .int (nI (n)), .int (nI (p))])), (a0, .inl (E.2 0, 2640, .inl (upd f j (1 - f j))))]) := by
  refine x_of' (own := "LineCoder$Line") (mn := "turn") (lv := [(0, .ref h0), (1, .int (nI (j)))]) (plainFor_of_name (by decide)) rfl rfl (Nat.le_of_ble_eq_true rfl) rfl ?_
  intro p_ e_ s_ m_ ar_ be_ me_ c_ A_ hA hB
  refine x_aload_n 1 hB d_L_turn_0 rfl rfl ?_
  refine x_iload_n 2 hB d_L_turn_1 rfl rfl ?_
  refine x_callP (k' := 0) (n' := 0) (rest := []) (st' := [.int (nI 1)]) 5 hB (x_pfV (av := [.int (nI (j))]) (q0 := 0) hB w_177 xHd_code w_174 w_175 w_176 rfl rfl nm_L_has rfl d_L_turn_2) (c_L_has_in l E h0 a0 n p j hj hn) w_177 xHd_code w_2 [0] rfl rfl ⟨by decide, by decide⟩ ⟨by decide, by decide⟩ rfl rfl (Nat.le_of_ble_eq_true rfl) d_L_turn_2 rfl rfl ?_
  refine x_if_eq 23 8 hB d_L_turn_5 (by decide) rfl (fun hc => absurd hc (by decide)) (fun _ => ?_)
  refine x_aload_n 9 hB d_L_turn_8 rfl rfl ?_
  refine x_get 12 hB 0 fg_L_11_0 rfl rfl d_L_turn_9 rfl ?_
  refine x_iload_n 13 hB d_L_turn_12 rfl rfl ?_
  refine x_iconst (v := nI 1) 14 hB d_L_turn_13 rfl (by decide) ?_
  refine x_aload_n 15 hB d_L_turn_14 rfl rfl ?_
  refine x_get 18 hB 0 fg_L_11_0 rfl rfl d_L_turn_15 rfl ?_
  refine x_iload_n 19 hB d_L_turn_18 rfl rfl ?_
  refine x_bald 20 hB 1 rfl (by omega) (by decide) d_L_turn_19 rfl ?_
  refine x_isub 21 hB d_L_turn_20 rfl ?_
  refine x_i2b (v := 1 - f j) 22 hB d_L_turn_21 rfl (by rcases hb with h | h <;> rw [h] <;> decide) ?_
  refine x_bast 23 hB 1 (ws' := [(h0, .inr (0, [.ref a0, .int (nI (n)), .int (nI (p))])), (a0, .inl (E.2 0, 2640, .inl (upd f j (1 - f j))))]) rfl (by omega) (by decide) (x' := 1 - f j) (by rcases hb with h | h <;> rw [h] <;> decide) rfl d_L_turn_22 rfl ?_
  exact x_vret hB (w' := [(h0, .inr (0, [.ref a0, .int (nI (n)), .int (nI (p))])), (a0, .inl (E.2 0, 2640, .inl (upd f j (1 - f j))))]) hA [0, 1] rfl rfl (xRet_i) (by decide) (by decide) d_L_turn_23
abbrev rm_JM_min : Room := { frames := 0, cells := 0, slots := 0, locals := 0 }
set_option maxHeartbeats 4000000 in
set_option maxRecDepth 100000 in
theorem c_JM_min (l : Launch) (E : xE) (a b : Int32) (h : ¬ b < a) : xCp l E y_JM_min (.code y_JM_min prog_16_method_69_code 2 (some .int)) rm_JM_min [.int (a), .int (b)] [] (.inl (some (.int (a)))) := by
  refine x_ofP (own := "java/lang/Math") (mn := "min") (lv := [(0, .int (a)), (1, .int (b))]) (by decide +kernel) rfl rfl (Nat.le_of_ble_eq_true rfl) rfl ?_
  intro p_ e_ s_ m_ ar_ be_ me_ c_ hB
  refine x_iload_n 1 hB d_JM_min_0 rfl rfl ?_
  refine x_iload_n 2 hB d_JM_min_1 rfl rfl ?_
  refine x_icmp_gt 9 5 hB d_JM_min_2 (by decide) rfl (fun hc => absurd hc (h)) (fun _ => ?_)
  refine x_iload_n 6 hB d_JM_min_5 rfl rfl ?_
  refine x_goto 10 hB d_JM_min_6 (by decide) ?_
  exact x_iretP hB (rfl) (by decide) (by decide) d_JM_min_10
abbrev rm_JM_min_r : Room := { frames := 0, cells := 0, slots := 0, locals := 0 }
set_option maxHeartbeats 4000000 in
set_option maxRecDepth 100000 in
theorem c_JM_min_r (l : Launch) (E : xE) (a b : Int32) (h : b < a) : xCp l E y_JM_min (.code y_JM_min prog_16_method_69_code 2 (some .int)) rm_JM_min_r [.int (a), .int (b)] [] (.inl (some (.int (b)))) := by
  refine x_ofP (own := "java/lang/Math") (mn := "min") (lv := [(0, .int (a)), (1, .int (b))]) (by decide +kernel) rfl rfl (Nat.le_of_ble_eq_true rfl) rfl ?_
  intro p_ e_ s_ m_ ar_ be_ me_ c_ hB
  refine x_iload_n 1 hB d_JM_min_0 rfl rfl ?_
  refine x_iload_n 2 hB d_JM_min_1 rfl rfl ?_
  refine x_icmp_gt 9 5 hB d_JM_min_2 (by decide) rfl (fun _ => ?_) (fun hc => absurd (h) hc)
  refine x_iload_n 10 hB d_JM_min_9 rfl rfl ?_
  exact x_iretP hB (rfl) (by decide) (by decide) d_JM_min_10
abbrev rm_JM_max : Room := { frames := 0, cells := 0, slots := 0, locals := 0 }
set_option maxHeartbeats 4000000 in
set_option maxRecDepth 100000 in
theorem c_JM_max (l : Launch) (E : xE) (a b : Int32) (h : ¬ a < b) : xCp l E y_JM_max (.code y_JM_max prog_16_method_65_code 2 (some .int)) rm_JM_max [.int (a), .int (b)] [] (.inl (some (.int (a)))) := by
  refine x_ofP (own := "java/lang/Math") (mn := "max") (lv := [(0, .int (a)), (1, .int (b))]) (by decide +kernel) rfl rfl (Nat.le_of_ble_eq_true rfl) rfl ?_
  intro p_ e_ s_ m_ ar_ be_ me_ c_ hB
  refine x_iload_n 1 hB d_JM_max_0 rfl rfl ?_
  refine x_iload_n 2 hB d_JM_max_1 rfl rfl ?_
  refine x_icmp_lt 9 5 hB d_JM_max_2 (by decide) rfl (fun hc => absurd hc (h)) (fun _ => ?_)
  refine x_iload_n 6 hB d_JM_max_5 rfl rfl ?_
  refine x_goto 10 hB d_JM_max_6 (by decide) ?_
  exact x_iretP hB (rfl) (by decide) (by decide) d_JM_max_10
abbrev rm_JM_max_r : Room := { frames := 0, cells := 0, slots := 0, locals := 0 }
set_option maxHeartbeats 4000000 in
set_option maxRecDepth 100000 in
theorem c_JM_max_r (l : Launch) (E : xE) (a b : Int32) (h : a < b) : xCp l E y_JM_max (.code y_JM_max prog_16_method_65_code 2 (some .int)) rm_JM_max_r [.int (a), .int (b)] [] (.inl (some (.int (b)))) := by
  refine x_ofP (own := "java/lang/Math") (mn := "max") (lv := [(0, .int (a)), (1, .int (b))]) (by decide +kernel) rfl rfl (Nat.le_of_ble_eq_true rfl) rfl ?_
  intro p_ e_ s_ m_ ar_ be_ me_ c_ hB
  refine x_iload_n 1 hB d_JM_max_0 rfl rfl ?_
  refine x_iload_n 2 hB d_JM_max_1 rfl rfl ?_
  refine x_icmp_lt 9 5 hB d_JM_max_2 (by decide) rfl (fun _ => ?_) (fun hc => absurd (h) hc)
  refine x_iload_n 10 hB d_JM_max_9 rfl rfl ?_
  exact x_iretP hB (rfl) (by decide) (by decide) d_JM_max_10
abbrev rm_L_advance : Room := { frames := 1, cells := 0, slots := 0, locals := 21 }
set_option maxHeartbeats 4000000 in
set_option maxRecDepth 100000 in
theorem c_L_advance (l : Launch) (E : xE) (h0 a0 n p : Nat) (q : Nat) (hp : p + q ≤ n) (hn : n ≤ 2640) : xC l E y_L_advance (.code y_L_advance prog_2_method_13_code 2 none) rm_L_advance [.ref h0, .int (nI (q))] [(h0, .inr (0, [.ref a0, .int (nI (n)), .int (nI (p))]))] (xRet none [(h0, .inr (0, [.ref a0, .int (nI (n)), .int (nI (p + q))]))]) := by
  refine x_of' (own := "LineCoder$Line") (mn := "advance") (lv := [(0, .ref h0), (1, .int (nI (q)))]) (plainFor_of_name (by decide)) rfl rfl (Nat.le_of_ble_eq_true rfl) rfl ?_
  intro p_ e_ s_ m_ ar_ be_ me_ c_ A_ hA hB
  refine x_aload_n 1 hB d_L_advance_0 rfl rfl ?_
  refine x_dup 2 hB d_L_advance_1 rfl rfl ?_
  refine x_get 5 hB 0 fg_L_19_0 rfl rfl d_L_advance_2 rfl ?_
  refine x_iload_n 6 hB d_L_advance_5 rfl rfl ?_
  refine x_aload_n 7 hB d_L_advance_6 rfl rfl ?_
  refine x_callP (k' := 0) (n' := 0) (rest := [.int (nI (q)), .int (nI (p)), .ref h0]) (st' := [.int (nI (n - p)), .int (nI (q)), .int (nI (p)), .ref h0]) 10 hB (x_pfV (av := []) (q0 := 0) hB w_161 xHd_code w_188 w_159 w_160 rfl rfl nm_L_left rfl d_L_advance_7) (c_L_left l E h0 a0 n p (by omega)) w_161 xHd_code w_2 [0] rfl rfl ⟨by decide, by decide⟩ ⟨by decide, by decide⟩ rfl rfl (Nat.le_of_ble_eq_true rfl) d_L_advance_7 rfl rfl ?_
  refine x_callP (k' := 0) (n' := 0) (rest := [.int (nI (p)), .ref h0]) (st' := [.int (nI (q)), .int (nI (p)), .ref h0]) 13 hB (x_pfS (av := [.int (nI (q)), .int (nI (n - p))]) hB w_191 xHd_code w_15 w_189 w_190 nm_JM_min rfl d_L_advance_10) (c_JM_min l E (nI q) (nI (n - p)) (nI_nlt (by omega) (by omega))) w_191 xHd_code w_15 [] rfl rfl ⟨by decide, by decide⟩ ⟨by decide, by decide⟩ rfl rfl (Nat.le_of_ble_eq_true rfl) d_L_advance_10 rfl rfl ?_
  refine x_iadd 14 hB d_L_advance_13 rfl ?_
  refine x_top (v' := .int (nI (p + q))) (congrArg Value.int (nI_add _ _)) ?_
  refine x_put 17 hB 0 (ws' := [(h0, .inr (0, [.ref a0, .int (nI (n)), .int (nI (p + q))]))]) fp_L_19_0 rfl (rfl) (rfl) (Nat.le_of_ble_eq_true rfl) rfl d_L_advance_14 rfl ?_
  exact x_vret hB (w' := [(h0, .inr (0, [.ref a0, .int (nI (n)), .int (nI (p + q))]))]) hA [0] rfl rfl (xRet_i) (by decide) (by decide) d_L_advance_17
abbrev rm_L_append : Room := { frames := 0, cells := 0, slots := 0, locals := 0 }
set_option maxHeartbeats 4000000 in
set_option maxRecDepth 100000 in
theorem c_L_append (l : Launch) (E : xE) (h0 a0 n p : Nat) (f : Nat → Int32) (x : Int32) (q : Nat) (hq : n + q ≤ 2640) : xC l E y_L_append (.code y_L_append prog_2_method_10_code 4 none) rm_L_append [.ref h0, .int (x), .int (nI (q))] [(h0, .inr (0, [.ref a0, .int (nI (n)), .int (nI (p))])), (a0, .inl (E.2 0, 2640, .inl (f)))] (xRet none [(h0, .inr (0, [.ref a0, .int (nI (n + q)), .int (nI (p))])), (a0, .inl (E.2 0, 2640, .inl (apF f n x q q)))]) := by
  refine x_of' (own := "LineCoder$Line") (mn := "append") (lv := [(0, .ref h0), (1, .int (x)), (2, .int (nI (q)))]) (plainFor_of_name (by decide)) rfl rfl (Nat.le_of_ble_eq_true rfl) rfl ?_
  intro p_ e_ s_ m_ ar_ be_ me_ c_ A_ hA hB
  refine x_iload_n 1 hB d_L_append_0 rfl rfl ?_
  refine x_iconst (v := nI 1) 2 hB d_L_append_1 rfl (by decide) ?_
  refine x_isub 3 hB d_L_append_2 rfl ?_
  refine x_istore_n 4 hB d_L_append_3 rfl (by decide) (lv' := [(3, .int ((nI (q)) - (nI 1))), (0, .ref h0), (1, .int (x)), (2, .int (nI (q)))]) rfl ?_
  refine x_lv (lv' := [(0, .ref h0), (1, .int (x)), (2, .int (nI (q))), (3, .int ((nI (q)) - (nI 1)))]) [1, 2, 3, 0] rfl ?_
  refine x_loop (fun t : Nat => t ≤ q) (fun t : Nat => q - t) (fun t : Nat => [(h0, .inr (0, [.ref a0, .int (nI (n + t)), .int (nI (p))])), (a0, .inl (E.2 0, 2640, .inl (apF f n x q t)))]) (fun t : Nat => [(0, .ref h0), (1, .int (x)), (2, .int (nI (q))), (3, .int (nI (q - t) - nI 1))]) (fun t : Nat => []) 0 (Nat.zero_le _) rfl rfl rfl (fun t hI4 IH4 => ?_)
  refine x_iload_n 5 hB d_L_append_4 rfl rfl ?_
  refine x_if_lt 49 8 hB d_L_append_5 (by decide) rfl (fun h5 => ?_) (fun h5 => ?_)
  · skip
    have ht : q = t := by have := xneg h5 (by omega); omega
    subst ht
    exact x_vret hB (w' := [(h0, .inr (0, [.ref a0, .int (nI (n + q)), .int (nI (p))])), (a0, .inl (E.2 0, 2640, .inl (apF f n x q q)))]) hA [0, 1] rfl rfl (xRet_i) (by decide) (by decide) d_L_append_49
  · skip
    have ht : t < q := Nat.lt_of_not_le (fun h => h5 (by rw [show q - t = 0 by omega]; decide))
    refine x_aload_n 9 hB d_L_append_8 rfl rfl ?_
    refine x_get 12 hB 0 fg_L_15_0 rfl rfl d_L_append_9 rfl ?_
    refine x_sipush (v := nI 2640) 15 hB d_L_append_12 rfl (by decide) ?_
    refine x_icmp_ge 49 18 hB d_L_append_15 (by decide) rfl (fun hc => absurd hc (nI_ge (by omega) (by decide))) (fun _ => ?_)
    refine x_aload_n 19 hB d_L_append_18 rfl rfl ?_
    refine x_get 22 hB 0 fg_L_11_0 rfl rfl d_L_append_19 rfl ?_
    refine x_aload_n 23 hB d_L_append_22 rfl rfl ?_
    refine x_get 26 hB 0 fg_L_15_0 rfl rfl d_L_append_23 rfl ?_
    refine x_iload_n 27 hB d_L_append_26 rfl rfl ?_
    refine x_iload_n 28 hB d_L_append_27 rfl rfl ?_
    refine x_top (v' := .int (nI (q - t - 1))) (congrArg Value.int (pk_sub (by omega))) ?_
    refine x_iushr (v := (x.toUInt32 >>> ((nI (q - t - 1)).toUInt32 &&& Int32.toUInt32 31)).toInt32) 29 hB d_L_append_28 rfl (rfl) ?_
    refine x_iconst (v := nI 1) 30 hB d_L_append_29 rfl (by decide) ?_
    refine x_iand 31 hB d_L_append_30 rfl ?_
    refine x_top (v' := .int (xbit x (q - t - 1))) (congrArg Value.int (rfl)) ?_
    refine x_i2b (v := xbit x (q - t - 1)) 32 hB d_L_append_31 rfl (byt01 (xbit01 _ _)) ?_
    refine x_bast 33 hB 1 (ws' := [(h0, .inr (0, [.ref a0, .int (nI (n + t)), .int (nI (p))])), (a0, .inl (E.2 0, 2640, .inl (apF f n x q (t + 1))))]) rfl (by omega) (by decide) (x' := xbit x (q - t - 1)) (nar01 (xbit01 _ _)) rfl d_L_append_32 rfl ?_
    refine x_aload_n 34 hB d_L_append_33 rfl rfl ?_
    refine x_dup 35 hB d_L_append_34 rfl rfl ?_
    refine x_get 38 hB 0 fg_L_15_0 rfl rfl d_L_append_35 rfl ?_
    refine x_iconst (v := nI 1) 39 hB d_L_append_38 rfl (by decide) ?_
    refine x_iadd 40 hB d_L_append_39 rfl ?_
    refine x_top (v' := .int (nI (n + (t + 1)))) (congrArg Value.int (nI_add (n + t) 1)) ?_
    refine x_put 43 hB 0 (ws' := [(h0, .inr (0, [.ref a0, .int (nI (n + (t + 1))), .int (nI (p))])), (a0, .inl (E.2 0, 2640, .inl (apF f n x q (t + 1))))]) fp_L_15_0 rfl (rfl) (rfl) (Nat.le_of_ble_eq_true rfl) rfl d_L_append_40 rfl ?_
    refine x_iinc (v := nI (q - (t + 1)) - nI 1) 46 hB d_L_append_43 rfl 3 rfl ((xdec (by omega)).trans (by rw [Nat.sub_sub])) (by decide) (lv' := [(3, .int (nI (q - (t + 1)) - nI 1)), (0, .ref h0), (1, .int (x)), (2, .int (nI (q)))]) rfl ?_
    refine x_goto 4 hB d_L_append_46 (by decide) ?_
    refine x_lv (lv' := [(0, .ref h0), (1, .int (x)), (2, .int (nI (q))), (3, .int (nI (q - (t + 1)) - nI 1))]) [1, 2, 3, 0] rfl ?_
    exact IH4 (t + 1) ht (by omega)
abbrev rm_L_ahead : Room := { frames := 2, cells := 0, slots := 0, locals := 42 }
set_option maxHeartbeats 4000000 in
set_option maxRecDepth 100000 in
theorem c_L_ahead (l : Launch) (E : xE) (h0 a0 n p : Nat) (f : Nat → Int32) (q : Nat) (hq : p + q ≤ n) (hn : n ≤ 2640) (hb : ∀ i, i < n → f i = 0 ∨ f i = 1) : xCp l E y_L_ahead (.code y_L_ahead prog_2_method_12_code 4 (some .int)) rm_L_ahead [.ref h0, .int (nI (q))] [(h0, .inr (0, [.ref a0, .int (nI (n)), .int (nI (p))])), (a0, .inl (E.2 0, 2640, .inl (f)))] (.inl (some (.int (ahF f p q)))) := by
  refine x_ofP (own := "LineCoder$Line") (mn := "ahead") (lv := [(0, .ref h0), (1, .int (nI (q)))]) (plainFor_of_name (by decide)) rfl rfl (Nat.le_of_ble_eq_true rfl) rfl ?_
  intro p_ e_ s_ m_ ar_ be_ me_ c_ hB
  refine x_iconst (v := nI 0) 1 hB d_L_ahead_0 rfl (by decide) ?_
  refine x_istore_n 2 hB d_L_ahead_1 rfl (by decide) (lv' := [(2, .int (nI 0)), (0, .ref h0), (1, .int (nI (q)))]) rfl ?_
  refine x_iconst (v := nI 0) 3 hB d_L_ahead_2 rfl (by decide) ?_
  refine x_istore_n 4 hB d_L_ahead_3 rfl (by decide) (lv' := [(3, .int (nI 0)), (2, .int (nI 0)), (0, .ref h0), (1, .int (nI (q)))]) rfl ?_
  refine x_lv (lv' := [(0, .ref h0), (1, .int (nI (q))), (2, .int (nI 0)), (3, .int (nI 0))]) [2, 3, 1, 0] rfl ?_
  refine x_loop (fun i : Nat => i ≤ q) (fun i : Nat => q - i) (fun i : Nat => [(h0, .inr (0, [.ref a0, .int (nI (n)), .int (nI (p))])), (a0, .inl (E.2 0, 2640, .inl (f)))]) (fun i : Nat => [(0, .ref h0), (1, .int (nI (q))), (2, .int (ahF f p i)), (3, .int (nI (i)))]) (fun i : Nat => []) 0 (Nat.zero_le _) rfl rfl rfl (fun i hI4 IH4 => ?_)
  refine x_iload_n 5 hB d_L_ahead_4 rfl rfl ?_
  refine x_iload_n 6 hB d_L_ahead_5 rfl rfl ?_
  refine x_icmp_ge 39 9 hB d_L_ahead_6 (by decide) rfl (fun h6 => ?_) (fun h6 => ?_)
  · skip
    have hi : q = i := by have := (nI_leI (by omega) (by omega)).mp h6; omega
    subst hi
    refine x_iload_n 40 hB d_L_ahead_39 rfl rfl ?_
    exact x_iretP hB (rfl) (by decide) (by decide) d_L_ahead_40
  · skip
    have hi : i < q := Nat.lt_of_not_le (fun h => h6 (nI_le h (by omega)))
    refine x_iload_n 10 hB d_L_ahead_9 rfl rfl ?_
    refine x_iconst (v := nI 1) 11 hB d_L_ahead_10 rfl (by decide) ?_
    refine x_ishl 12 hB d_L_ahead_11 rfl ?_
    refine x_aload_n 13 hB d_L_ahead_12 rfl rfl ?_
    refine x_aload_n 14 hB d_L_ahead_13 rfl rfl ?_
    refine x_get 17 hB 0 fg_L_19_0 rfl rfl d_L_ahead_14 rfl ?_
    refine x_iload_n 18 hB d_L_ahead_17 rfl rfl ?_
    refine x_iadd 19 hB d_L_ahead_18 rfl ?_
    refine x_top (v' := .int (nI (p + i))) (congrArg Value.int (nI_add _ _)) ?_
    refine x_callP (k' := 0) (n' := 0) (rest := [.int ((ahF f p i) <<< ((nI 1) &&& 31))]) (st' := [.int ((f) (p + i)), .int ((ahF f p i) <<< ((nI 1) &&& 31))]) 22 hB (x_pfV (av := [.int (nI (p + i))]) (q0 := 0) hB w_173 xHd_code w_170 w_171 w_172 rfl rfl nm_L_at rfl d_L_ahead_19) (c_L_at_in l E h0 a0 n p f (p + i) (by omega) hn) w_173 xHd_code w_2 [0, 1] rfl rfl ⟨by decide, by decide⟩ ⟨by decide, by decide⟩ rfl rfl (Nat.le_of_ble_eq_true rfl) d_L_ahead_19 rfl rfl ?_
    refine x_iconst (v := nI 1) 23 hB d_L_ahead_22 rfl (by decide) ?_
    refine x_icmp_ne 30 26 hB d_L_ahead_23 (by decide) rfl (fun h23 => ?_) (fun h23 => ?_)
    · skip
      refine x_iconst (v := nI 0) 31 hB d_L_ahead_30 rfl (by decide) ?_
      refine x_ior 32 hB d_L_ahead_31 rfl ?_
      refine x_top (v' := .int (ahF f p (i + 1))) (congrArg Value.int (by have hz : f (p + i) = 0 := (hb (p + i) (by omega)).resolve_right h23; show _ = (ahF f p i <<< (nI 1 &&& 31)) ||| f (p + i); rw [hz]; rfl)) ?_
      refine x_istore_n 33 hB d_L_ahead_32 rfl (by decide) (lv' := [(2, .int (ahF f p (i + 1))), (0, .ref h0), (1, .int (nI (q))), (3, .int (nI (i)))]) rfl ?_
      refine x_iinc (v := nI (i + 1)) 36 hB d_L_ahead_33 rfl 3 rfl ((nI_succ i).symm) (by decide) (lv' := [(3, .int (nI (i + 1))), (2, .int (ahF f p (i + 1))), (0, .ref h0), (1, .int (nI (q)))]) rfl ?_
      refine x_goto 4 hB d_L_ahead_36 (by decide) ?_
      refine x_lv (lv' := [(0, .ref h0), (1, .int (nI (q))), (2, .int (ahF f p (i + 1))), (3, .int (nI (i + 1)))]) [2, 3, 1, 0] rfl ?_
      exact IH4 (i + 1) hi (by omega)
    · skip
      refine x_iconst (v := nI 1) 27 hB d_L_ahead_26 rfl (by decide) ?_
      refine x_goto 31 hB d_L_ahead_27 (by decide) ?_
      refine x_ior 32 hB d_L_ahead_31 rfl ?_
      refine x_top (v' := .int (ahF f p (i + 1))) (congrArg Value.int (by show _ = (ahF f p i <<< (nI 1 &&& 31)) ||| f (p + i); rw [h23])) ?_
      refine x_istore_n 33 hB d_L_ahead_32 rfl (by decide) (lv' := [(2, .int (ahF f p (i + 1))), (0, .ref h0), (1, .int (nI (q))), (3, .int (nI (i)))]) rfl ?_
      refine x_iinc (v := nI (i + 1)) 36 hB d_L_ahead_33 rfl 3 rfl ((nI_succ i).symm) (by decide) (lv' := [(3, .int (nI (i + 1))), (2, .int (ahF f p (i + 1))), (0, .ref h0), (1, .int (nI (q)))]) rfl ?_
      refine x_goto 4 hB d_L_ahead_36 (by decide) ?_
      refine x_lv (lv' := [(0, .ref h0), (1, .int (nI (q))), (2, .int (ahF f p (i + 1))), (3, .int (nI (i + 1)))]) [2, 3, 1, 0] rfl ?_
      exact IH4 (i + 1) hi (by omega)
abbrev rm_L_olz : Room := { frames := 0, cells := 0, slots := 0, locals := 0 }
set_option maxHeartbeats 4000000 in
set_option maxRecDepth 100000 in
theorem c_L_olz (l : Launch) (E : xE) (h0 a0 n p : Nat) (f : Nat → Int32) (hn : n ≤ 2640) : xCp l E y_L_onesLessZeros (.code y_L_onesLessZeros prog_2_method_14_code 3 (some .int)) rm_L_olz [.ref h0] [(h0, .inr (0, [.ref a0, .int (nI (n)), .int (nI (p))])), (a0, .inl (E.2 0, 2640, .inl (f)))] (.inl (some (.int (olF f n)))) := by
  refine x_ofP (own := "LineCoder$Line") (mn := "onesLessZeros") (lv := [(0, .ref h0)]) (plainFor_of_name (by decide)) rfl rfl (Nat.le_of_ble_eq_true rfl) rfl ?_
  intro p_ e_ s_ m_ ar_ be_ me_ c_ hB
  refine x_iconst (v := nI 0) 1 hB d_L_onesLessZeros_0 rfl (by decide) ?_
  refine x_istore_n 2 hB d_L_onesLessZeros_1 rfl (by decide) (lv' := [(1, .int (nI 0)), (0, .ref h0)]) rfl ?_
  refine x_iconst (v := nI 0) 3 hB d_L_onesLessZeros_2 rfl (by decide) ?_
  refine x_istore_n 4 hB d_L_onesLessZeros_3 rfl (by decide) (lv' := [(2, .int (nI 0)), (1, .int (nI 0)), (0, .ref h0)]) rfl ?_
  refine x_lv (lv' := [(0, .ref h0), (1, .int (nI 0)), (2, .int (nI 0))]) [2, 1, 0] rfl ?_
  refine x_loop (fun i : Nat => i ≤ n) (fun i : Nat => n - i) (fun i : Nat => [(h0, .inr (0, [.ref a0, .int (nI (n)), .int (nI (p))])), (a0, .inl (E.2 0, 2640, .inl (f)))]) (fun i : Nat => [(0, .ref h0), (1, .int (olF f i)), (2, .int (nI (i)))]) (fun i : Nat => []) 0 (Nat.zero_le _) rfl rfl rfl (fun i hI4 IH4 => ?_)
  refine x_iload_n 5 hB d_L_onesLessZeros_4 rfl rfl ?_
  refine x_aload_n 6 hB d_L_onesLessZeros_5 rfl rfl ?_
  refine x_get 9 hB 0 fg_L_15_0 rfl rfl d_L_onesLessZeros_6 rfl ?_
  refine x_icmp_ge 36 12 hB d_L_onesLessZeros_9 (by decide) rfl (fun h9 => ?_) (fun h9 => ?_)
  · skip
    have hi : n = i := by have := (nI_leI (by omega) (by omega)).mp h9; omega
    subst hi
    refine x_iload_n 37 hB d_L_onesLessZeros_36 rfl rfl ?_
    exact x_iretP hB (rfl) (by decide) (by decide) d_L_onesLessZeros_37
  · skip
    have hi : i < n := Nat.lt_of_not_le (fun h => h9 (nI_le h (by omega)))
    refine x_iload_n 13 hB d_L_onesLessZeros_12 rfl rfl ?_
    refine x_aload_n 14 hB d_L_onesLessZeros_13 rfl rfl ?_
    refine x_get 17 hB 0 fg_L_11_0 rfl rfl d_L_onesLessZeros_14 rfl ?_
    refine x_iload_n 18 hB d_L_onesLessZeros_17 rfl rfl ?_
    refine x_bald 19 hB 1 rfl (by omega) (by decide) d_L_onesLessZeros_18 rfl ?_
    refine x_iconst (v := nI 1) 20 hB d_L_onesLessZeros_19 rfl (by decide) ?_
    refine x_icmp_ne 27 23 hB d_L_onesLessZeros_20 (by decide) rfl (fun h20 => ?_) (fun h20 => ?_)
    · skip
      refine x_iconst (v := (-1 : Int32)) 28 hB d_L_onesLessZeros_27 rfl (by decide) ?_
      refine x_iadd 29 hB d_L_onesLessZeros_28 rfl ?_
      refine x_top (v' := .int (olF f (i + 1))) (congrArg Value.int (by show _ = olF f i + _; rw [if_neg h20])) ?_
      refine x_istore_n 30 hB d_L_onesLessZeros_29 rfl (by decide) (lv' := [(1, .int (olF f (i + 1))), (0, .ref h0), (2, .int (nI (i)))]) rfl ?_
      refine x_iinc (v := nI (i + 1)) 33 hB d_L_onesLessZeros_30 rfl 2 rfl ((nI_succ i).symm) (by decide) (lv' := [(2, .int (nI (i + 1))), (1, .int (olF f (i + 1))), (0, .ref h0)]) rfl ?_
      refine x_goto 4 hB d_L_onesLessZeros_33 (by decide) ?_
      refine x_lv (lv' := [(0, .ref h0), (1, .int (olF f (i + 1))), (2, .int (nI (i + 1)))]) [2, 1, 0] rfl ?_
      exact IH4 (i + 1) hi (by omega)
    · skip
      refine x_iconst (v := nI 1) 24 hB d_L_onesLessZeros_23 rfl (by decide) ?_
      refine x_goto 28 hB d_L_onesLessZeros_24 (by decide) ?_
      refine x_iadd 29 hB d_L_onesLessZeros_28 rfl ?_
      refine x_top (v' := .int (olF f (i + 1))) (congrArg Value.int (by show _ = olF f i + _; rw [if_pos h20])) ?_
      refine x_istore_n 30 hB d_L_onesLessZeros_29 rfl (by decide) (lv' := [(1, .int (olF f (i + 1))), (0, .ref h0), (2, .int (nI (i)))]) rfl ?_
      refine x_iinc (v := nI (i + 1)) 33 hB d_L_onesLessZeros_30 rfl 2 rfl ((nI_succ i).symm) (by decide) (lv' := [(2, .int (nI (i + 1))), (1, .int (olF f (i + 1))), (0, .ref h0)]) rfl ?_
      refine x_goto 4 hB d_L_onesLessZeros_33 (by decide) ?_
      refine x_lv (lv' := [(0, .ref h0), (1, .int (olF f (i + 1))), (2, .int (nI (i + 1)))]) [2, 1, 0] rfl ?_
      exact IH4 (i + 1) hi (by omega)
abbrev rm_L_init : Room := { frames := 1, cells := 1, slots := 2640, locals := 20 }
set_option maxHeartbeats 4000000 in
set_option maxRecDepth 100000 in
theorem c_L_init (l : Launch) (E : xE) (h0 : Nat) : xC l E y_L_init (.code y_L_init prog_2_method_1_code 1 none) rm_L_init [.ref h0] [(h0, .inr (0, [.null, .int 0, .int 0]))] (xEx (fun a0 : Nat => [(h0, .inr (0, [.ref a0, .int (nI (0)), .int (nI (0))])), (a0, .inl (E.2 0, 2640, .inl (fun _ => 0)))])) := by
  refine x_of' (own := "LineCoder$Line") (mn := "<init>") (lv := [(0, .ref h0)]) (plainFor_of_name (by decide)) rfl rfl (Nat.le_of_ble_eq_true rfl) rfl ?_
  intro p_ e_ s_ m_ ar_ be_ me_ c_ A_ hA hB
  refine x_aload_n 1 hB d_L_init_0 rfl rfl ?_
  refine x_objInit 4 hB w_31 w_24 w_25 d_L_init_1 rfl (by decide) (Nat.le_of_ble_eq_true rfl) ?_
  refine x_aload_n 5 hB d_L_init_4 rfl rfl ?_
  refine x_sipush (v := nI 2640) 8 hB d_L_init_5 rfl (by decide) ?_
  refine x_newB (k' := 1) (n' := 2640) 10 hB w_42 (by decide) (by decide) (by decide) rfl rfl d_L_init_8 rfl (fun q8 => ?_)
  refine x_ws (ws' := [(h0, .inr (0, [.null, .int 0, .int 0])), (q8, .inl (E.2 0, 2640, .inl (fun _ => 0)))]) rfl ?_
  refine x_putF 13 hB 0 (ws' := [(h0, .inr (0, [.ref q8, .int 0, .int 0])), (q8, .inl (E.2 0, 2640, .inl (fun _ => 0)))]) fp_L_11_0 rfl (rfl) (rfl) (Nat.le_of_ble_eq_true rfl) rfl d_L_init_10 rfl ?_
  refine x_aload_n 14 hB d_L_init_13 rfl rfl ?_
  refine x_iconst (v := nI 0) 15 hB d_L_init_14 rfl (by decide) ?_
  refine x_put 18 hB 0 (ws' := [(h0, .inr (0, [.ref q8, .int (nI 0), .int 0])), (q8, .inl (E.2 0, 2640, .inl (fun _ => 0)))]) fp_L_15_0 rfl (rfl) (rfl) (Nat.le_of_ble_eq_true rfl) rfl d_L_init_15 rfl ?_
  refine x_aload_n 19 hB d_L_init_18 rfl rfl ?_
  refine x_iconst (v := nI 0) 20 hB d_L_init_19 rfl (by decide) ?_
  refine x_put 23 hB 0 (ws' := [(h0, .inr (0, [.ref q8, .int (nI 0), .int (nI 0)])), (q8, .inl (E.2 0, 2640, .inl (fun _ => 0)))]) fp_L_19_0 rfl (rfl) (rfl) (Nat.le_of_ble_eq_true rfl) rfl d_L_init_20 rfl ?_
  exact x_vret hB (w' := [(h0, .inr (0, [.ref q8, .int (nI 0), .int (nI 0)])), (q8, .inl (E.2 0, 2640, .inl (fun _ => 0)))]) hA [0, 1] rfl rfl (⟨rfl, q8, rfl⟩) (by decide) (by decide) d_L_init_23
