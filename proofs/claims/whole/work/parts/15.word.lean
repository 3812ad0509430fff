abbrev rm_W_marks : Room := { frames := 1, cells := 0, slots := 0, locals := 20 }
set_option maxHeartbeats 4000000 in
set_option maxRecDepth 100000 in
theorem c_W_marks (l : Launch) (E : xE) (hr h0 hs : Nat) (fo : Bool) (sl bd wr gr : Nat) (la : Int32) (last : Int64) : xCp l E y_W_marks (.code y_W_marks prog_8_method_4_code 1 (some .int)) rm_W_marks [.ref hr] [(hr, .inr (3, [.ref h0, .int (bI fo), .int (nI (sl)), .int (nI (bd)), .int (nI (wr)), .ref hs, .int (nI (gr)), .int (la), .long (last)]))] (.inl (some (.int (if fo then bcF la else nI gr)))) := by
  refine x_ofP (own := "LineCoder$WordReceiver") (mn := "marks") (lv := [(0, .ref hr)]) (plainFor_of_name (by decide)) rfl rfl (Nat.le_of_ble_eq_true rfl) rfl ?_
  intro p_ e_ s_ m_ ar_ be_ me_ c_ hB
  refine x_aload_n 1 hB d_W_marks_0 rfl rfl ?_
  refine x_get 4 hB 0 fg_W_37_3 rfl rfl d_W_marks_1 rfl ?_
  refine x_if_eq 17 7 hB d_W_marks_4 (by decide) rfl (fun h4 => ?_) (fun h4 => ?_)
  · skip
    have k4 : fo = false := bI_0 h4
    refine x_aload_n 18 hB d_W_marks_17 rfl rfl ?_
    refine x_get 21 hB 0 fg_W_20_3 rfl rfl d_W_marks_18 rfl ?_
    exact x_iretP hB (sVe (by rw [k4]; rfl)) (by decide) (by decide) d_W_marks_21
  · skip
    have k4 : fo = true := bI_1 h4
    refine x_aload_n 8 hB d_W_marks_7 rfl rfl ?_
    refine x_get 11 hB 0 fg_W_24_3 rfl rfl d_W_marks_8 rfl ?_
    refine x_callP (k' := 0) (n' := 0) (rest := []) (st' := [.int (bcF la)]) 14 hB (x_pfS (av := [.int (la)]) hB w_210 xHd_code w_13 w_289 w_209 nm_JI_bitCount rfl d_W_marks_11) (c_JI_bitCount l E la) w_210 xHd_code w_13 [] rfl rfl ⟨by decide, by decide⟩ ⟨by decide, by decide⟩ rfl rfl (Nat.le_of_ble_eq_true rfl) d_W_marks_11 rfl rfl ?_
    refine x_goto 21 hB d_W_marks_14 (by decide) ?_
    exact x_iretP hB (sVe (by rw [k4]; rfl)) (by decide) (by decide) d_W_marks_21
abbrev rm_W_gain : Room := { frames := 0, cells := 0, slots := 0, locals := 0 }
set_option maxHeartbeats 4000000 in
set_option maxRecDepth 100000 in
theorem c_W_gain (l : Launch) (E : xE) (hr h0 hs : Nat) (fo : Bool) (sl bd wr gr : Nat) (la : Int32) (last : Int64) (hg : gr ≤ 8) : xC l E y_W_gain (.code y_W_gain prog_8_method_7_code 1 none) rm_W_gain [.ref hr] [(hr, .inr (3, [.ref h0, .int (bI fo), .int (nI (sl)), .int (nI (bd)), .int (nI (wr)), .ref hs, .int (nI (gr)), .int (la), .long (last)]))] (xRet none [(hr, .inr (3, [.ref h0, .int (bI (if 8 ≤ gr + 1 then true else fo)), .int (nI (sl)), .int (nI (bd)), .int (nI (wr)), .ref hs, .int (nI (gr + 1)), .int (if 8 ≤ gr + 1 then nI 0 else la), .long (last)]))]) := by
  refine x_of' (own := "LineCoder$WordReceiver") (mn := "gain") (lv := [(0, .ref hr)]) (plainFor_of_name (by decide)) rfl rfl (Nat.le_of_ble_eq_true rfl) rfl ?_
  intro p_ e_ s_ m_ ar_ be_ me_ c_ A_ hA hB
  refine x_aload_n 1 hB d_W_gain_0 rfl rfl ?_
  refine x_dup 2 hB d_W_gain_1 rfl rfl ?_
  refine x_get 5 hB 0 fg_W_20_3 rfl rfl d_W_gain_2 rfl ?_
  refine x_iconst (v := nI 1) 6 hB d_W_gain_5 rfl (by decide) ?_
  refine x_iadd 7 hB d_W_gain_6 rfl ?_
  refine x_top (v' := .int (nI (gr + 1))) (congrArg Value.int (nI_add gr 1)) ?_
  refine x_put 10 hB 0 (ws' := [(hr, .inr (3, [.ref h0, .int (bI fo), .int (nI (sl)), .int (nI (bd)), .int (nI (wr)), .ref hs, .int (nI (gr + 1)), .int (la), .long (last)]))]) fp_W_20_3 rfl (rfl) (rfl) (Nat.le_of_ble_eq_true rfl) rfl d_W_gain_7 rfl ?_
  refine x_aload_n 11 hB d_W_gain_10 rfl rfl ?_
  refine x_get 14 hB 0 fg_W_20_3 rfl rfl d_W_gain_11 rfl ?_
  refine x_bipush (v := nI 8) 16 hB d_W_gain_14 rfl (by decide) ?_
  refine x_icmp_lt 29 19 hB d_W_gain_16 (by decide) rfl (fun h16 => ?_) (fun h16 => ?_)
  · skip
    have k16 : (gr + 1) < 8 := (nI_ltI (by omega) (by omega)).mp h16
    exact x_vret hB (w' := [(hr, .inr (3, [.ref h0, .int (bI fo), .int (nI (sl)), .int (nI (bd)), .int (nI (wr)), .ref hs, .int (nI (gr + 1)), .int (la), .long (last)]))]) hA [0] rfl rfl (⟨rfl, by rw [if_neg (by omega), if_neg (by omega)]⟩) (by decide) (by decide) d_W_gain_29
  · skip
    have k16 : ¬ (gr + 1) < 8 := fun h => h16 ((nI_ltI (by omega) (by omega)).mpr h)
    refine x_aload_n 20 hB d_W_gain_19 rfl rfl ?_
    refine x_iconst (v := nI 1) 21 hB d_W_gain_20 rfl (by decide) ?_
    refine x_put 24 hB 0 (ws' := [(hr, .inr (3, [.ref h0, .int (nI 1), .int (nI (sl)), .int (nI (bd)), .int (nI (wr)), .ref hs, .int (nI (gr + 1)), .int (la), .long (last)]))]) fp_W_37_3 rfl (rfl) (rfl) (Nat.le_of_ble_eq_true rfl) rfl d_W_gain_21 rfl ?_
    refine x_aload_n 25 hB d_W_gain_24 rfl rfl ?_
    refine x_iconst (v := nI 0) 26 hB d_W_gain_25 rfl (by decide) ?_
    refine x_put 29 hB 0 (ws' := [(hr, .inr (3, [.ref h0, .int (nI 1), .int (nI (sl)), .int (nI (bd)), .int (nI (wr)), .ref hs, .int (nI (gr + 1)), .int (nI 0), .long (last)]))]) fp_W_24_3 rfl (rfl) (rfl) (Nat.le_of_ble_eq_true rfl) rfl d_W_gain_26 rfl ?_
    exact x_vret hB (w' := [(hr, .inr (3, [.ref h0, .int (nI 1), .int (nI (sl)), .int (nI (bd)), .int (nI (wr)), .ref hs, .int (nI (gr + 1)), .int (nI 0), .long (last)]))]) hA [0] rfl rfl (⟨rfl, by rw [if_pos (by omega), if_pos (by omega)]; rfl⟩) (by decide) (by decide) d_W_gain_29
abbrev rm_W_watch_true : Room := { frames := 1, cells := 0, slots := 0, locals := 20 }
set_option maxHeartbeats 4000000 in
set_option maxRecDepth 100000 in
theorem c_W_watch_true (l : Launch) (E : xE) (hr h0 hs : Nat) (fo : Bool) (sl bd wr gr : Nat) (la : Int32) (last : Int64) : xC l E y_W_watch (.code y_W_watch prog_8_method_8_code 2 none) rm_W_watch_true [.ref hr, .int (nI 1)] [(hr, .inr (3, [.ref h0, .int (bI fo), .int (nI (sl)), .int (nI (bd)), .int (nI (wr)), .ref hs, .int (nI (gr)), .int (la), .long (last)]))] (xRet none [(hr, .inr (3, [.ref h0, .int (bI (if lt4 (wlF la true) then fo else false)), .int (nI (sl)), .int (nI (bd)), .int (nI (wr)), .ref hs, .int (nI (if lt4 (wlF la true) then gr else 0)), .int (wlF la true), .long (last)]))]) := by
  refine x_of' (own := "LineCoder$WordReceiver") (mn := "watch") (lv := [(0, .ref hr), (1, .int (nI 1))]) (plainFor_of_name (by decide)) rfl rfl (Nat.le_of_ble_eq_true rfl) rfl ?_
  intro p_ e_ s_ m_ ar_ be_ me_ c_ A_ hA hB
  refine x_aload_n 1 hB d_W_watch_0 rfl rfl ?_
  refine x_aload_n 2 hB d_W_watch_1 rfl rfl ?_
  refine x_get 5 hB 0 fg_W_24_3 rfl rfl d_W_watch_2 rfl ?_
  refine x_iconst (v := nI 1) 6 hB d_W_watch_5 rfl (by decide) ?_
  refine x_ishl 7 hB d_W_watch_6 rfl ?_
  refine x_iload_n 8 hB d_W_watch_7 rfl rfl ?_
  refine x_if_eq 15 11 hB d_W_watch_8 (by decide) rfl (fun hc => absurd hc (by decide)) (fun _ => ?_)
  refine x_iconst (v := nI 0) 12 hB d_W_watch_11 rfl (by decide) ?_
  refine x_goto 16 hB d_W_watch_12 (by decide) ?_
  refine x_ior 17 hB d_W_watch_16 rfl ?_
  refine x_ldc 19 hB d_W_watch_17 rfl w_288 ?_
  refine x_iand 20 hB d_W_watch_19 rfl ?_
  refine x_top (v' := .int (wlF la true)) (congrArg Value.int (rfl)) ?_
  refine x_put 23 hB 0 (ws' := [(hr, .inr (3, [.ref h0, .int (bI fo), .int (nI (sl)), .int (nI (bd)), .int (nI (wr)), .ref hs, .int (nI (gr)), .int (wlF la true), .long (last)]))]) fp_W_24_3 rfl (rfl) (rfl) (Nat.le_of_ble_eq_true rfl) rfl d_W_watch_20 rfl ?_
  refine x_aload_n 24 hB d_W_watch_23 rfl rfl ?_
  refine x_get 27 hB 0 fg_W_24_3 rfl rfl d_W_watch_24 rfl ?_
  refine x_callP (k' := 0) (n' := 0) (rest := []) (st' := [.int (bcF (wlF la true))]) 30 hB (x_pfS (av := [.int (wlF la true)]) hB w_210 xHd_code w_13 w_289 w_209 nm_JI_bitCount rfl d_W_watch_27) (c_JI_bitCount l E (wlF la true)) w_210 xHd_code w_13 [] rfl rfl ⟨by decide, by decide⟩ ⟨by decide, by decide⟩ rfl rfl (Nat.le_of_ble_eq_true rfl) d_W_watch_27 rfl rfl ?_
  refine x_iconst (v := nI 4) 31 hB d_W_watch_30 rfl (by decide) ?_
  refine x_icmp_lt 44 34 hB d_W_watch_31 (by decide) rfl (fun h31 => ?_) (fun h31 => ?_)
  · skip
    have k31 : lt4 (wlF la true) = true := decide_eq_true h31
    exact x_vret hB (w' := [(hr, .inr (3, [.ref h0, .int (bI fo), .int (nI (sl)), .int (nI (bd)), .int (nI (wr)), .ref hs, .int (nI (gr)), .int (wlF la true), .long (last)]))]) hA [0] rfl rfl (⟨rfl, by rw [k31]; rfl⟩) (by decide) (by decide) d_W_watch_44
  · skip
    have k31 : lt4 (wlF la true) = false := decide_eq_false h31
    refine x_aload_n 35 hB d_W_watch_34 rfl rfl ?_
    refine x_iconst (v := nI 0) 36 hB d_W_watch_35 rfl (by decide) ?_
    refine x_put 39 hB 0 (ws' := [(hr, .inr (3, [.ref h0, .int (nI 0), .int (nI (sl)), .int (nI (bd)), .int (nI (wr)), .ref hs, .int (nI (gr)), .int (wlF la true), .long (last)]))]) fp_W_37_3 rfl (rfl) (rfl) (Nat.le_of_ble_eq_true rfl) rfl d_W_watch_36 rfl ?_
    refine x_aload_n 40 hB d_W_watch_39 rfl rfl ?_
    refine x_iconst (v := nI 0) 41 hB d_W_watch_40 rfl (by decide) ?_
    refine x_put 44 hB 0 (ws' := [(hr, .inr (3, [.ref h0, .int (nI 0), .int (nI (sl)), .int (nI (bd)), .int (nI (wr)), .ref hs, .int (nI 0), .int (wlF la true), .long (last)]))]) fp_W_20_3 rfl (rfl) (rfl) (Nat.le_of_ble_eq_true rfl) rfl d_W_watch_41 rfl ?_
    exact x_vret hB (w' := [(hr, .inr (3, [.ref h0, .int (nI 0), .int (nI (sl)), .int (nI (bd)), .int (nI (wr)), .ref hs, .int (nI 0), .int (wlF la true), .long (last)]))]) hA [0] rfl rfl (⟨rfl, by rw [k31]; rfl⟩) (by decide) (by decide) d_W_watch_44
abbrev rm_W_watch_false : Room := { frames := 1, cells := 0, slots := 0, locals := 20 }
set_option maxHeartbeats 4000000 in
set_option maxRecDepth 100000 in
theorem c_W_watch_false (l : Launch) (E : xE) (hr h0 hs : Nat) (fo : Bool) (sl bd wr gr : Nat) (la : Int32) (last : Int64) : xC l E y_W_watch (.code y_W_watch prog_8_method_8_code 2 none) rm_W_watch_false [.ref hr, .int (nI 0)] [(hr, .inr (3, [.ref h0, .int (bI fo), .int (nI (sl)), .int (nI (bd)), .int (nI (wr)), .ref hs, .int (nI (gr)), .int (la), .long (last)]))] (xRet none [(hr, .inr (3, [.ref h0, .int (bI (if lt4 (wlF la false) then fo else false)), .int (nI (sl)), .int (nI (bd)), .int (nI (wr)), .ref hs, .int (nI (if lt4 (wlF la false) then gr else 0)), .int (wlF la false), .long (last)]))]) := by
  refine x_of' (own := "LineCoder$WordReceiver") (mn := "watch") (lv := [(0, .ref hr), (1, .int (nI 0))]) (plainFor_of_name (by decide)) rfl rfl (Nat.le_of_ble_eq_true rfl) rfl ?_
  intro p_ e_ s_ m_ ar_ be_ me_ c_ A_ hA hB
  refine x_aload_n 1 hB d_W_watch_0 rfl rfl ?_
  refine x_aload_n 2 hB d_W_watch_1 rfl rfl ?_
  refine x_get 5 hB 0 fg_W_24_3 rfl rfl d_W_watch_2 rfl ?_
  refine x_iconst (v := nI 1) 6 hB d_W_watch_5 rfl (by decide) ?_
  refine x_ishl 7 hB d_W_watch_6 rfl ?_
  refine x_iload_n 8 hB d_W_watch_7 rfl rfl ?_
  refine x_if_eq 15 11 hB d_W_watch_8 (by decide) rfl (fun _ => ?_) (fun hc => absurd (by decide) hc)
  refine x_iconst (v := nI 1) 16 hB d_W_watch_15 rfl (by decide) ?_
  refine x_ior 17 hB d_W_watch_16 rfl ?_
  refine x_ldc 19 hB d_W_watch_17 rfl w_288 ?_
  refine x_iand 20 hB d_W_watch_19 rfl ?_
  refine x_top (v' := .int (wlF la false)) (congrArg Value.int (rfl)) ?_
  refine x_put 23 hB 0 (ws' := [(hr, .inr (3, [.ref h0, .int (bI fo), .int (nI (sl)), .int (nI (bd)), .int (nI (wr)), .ref hs, .int (nI (gr)), .int (wlF la false), .long (last)]))]) fp_W_24_3 rfl (rfl) (rfl) (Nat.le_of_ble_eq_true rfl) rfl d_W_watch_20 rfl ?_
  refine x_aload_n 24 hB d_W_watch_23 rfl rfl ?_
  refine x_get 27 hB 0 fg_W_24_3 rfl rfl d_W_watch_24 rfl ?_
  refine x_callP (k' := 0) (n' := 0) (rest := []) (st' := [.int (bcF (wlF la false))]) 30 hB (x_pfS (av := [.int (wlF la false)]) hB w_210 xHd_code w_13 w_289 w_209 nm_JI_bitCount rfl d_W_watch_27) (c_JI_bitCount l E (wlF la false)) w_210 xHd_code w_13 [] rfl rfl ⟨by decide, by decide⟩ ⟨by decide, by decide⟩ rfl rfl (Nat.le_of_ble_eq_true rfl) d_W_watch_27 rfl rfl ?_
  refine x_iconst (v := nI 4) 31 hB d_W_watch_30 rfl (by decide) ?_
  refine x_icmp_lt 44 34 hB d_W_watch_31 (by decide) rfl (fun h31 => ?_) (fun h31 => ?_)
  · skip
    have k31 : lt4 (wlF la false) = true := decide_eq_true h31
    exact x_vret hB (w' := [(hr, .inr (3, [.ref h0, .int (bI fo), .int (nI (sl)), .int (nI (bd)), .int (nI (wr)), .ref hs, .int (nI (gr)), .int (wlF la false), .long (last)]))]) hA [0] rfl rfl (⟨rfl, by rw [k31]; rfl⟩) (by decide) (by decide) d_W_watch_44
  · skip
    have k31 : lt4 (wlF la false) = false := decide_eq_false h31
    refine x_aload_n 35 hB d_W_watch_34 rfl rfl ?_
    refine x_iconst (v := nI 0) 36 hB d_W_watch_35 rfl (by decide) ?_
    refine x_put 39 hB 0 (ws' := [(hr, .inr (3, [.ref h0, .int (nI 0), .int (nI (sl)), .int (nI (bd)), .int (nI (wr)), .ref hs, .int (nI (gr)), .int (wlF la false), .long (last)]))]) fp_W_37_3 rfl (rfl) (rfl) (Nat.le_of_ble_eq_true rfl) rfl d_W_watch_36 rfl ?_
    refine x_aload_n 40 hB d_W_watch_39 rfl rfl ?_
    refine x_iconst (v := nI 0) 41 hB d_W_watch_40 rfl (by decide) ?_
    refine x_put 44 hB 0 (ws' := [(hr, .inr (3, [.ref h0, .int (nI 0), .int (nI (sl)), .int (nI (bd)), .int (nI (wr)), .ref hs, .int (nI 0), .int (wlF la false), .long (last)]))]) fp_W_20_3 rfl (rfl) (rfl) (Nat.le_of_ble_eq_true rfl) rfl d_W_watch_41 rfl ?_
    exact x_vret hB (w' := [(hr, .inr (3, [.ref h0, .int (nI 0), .int (nI (sl)), .int (nI (bd)), .int (nI (wr)), .ref hs, .int (nI 0), .int (wlF la false), .long (last)]))]) hA [0] rfl rfl (⟨rfl, by rw [k31]; rfl⟩) (by decide) (by decide) d_W_watch_44
abbrev rm_W_takeWord : Room := { frames := 3, cells := 0, slots := 0, locals := 65 }
set_option maxHeartbeats 4000000 in
set_option maxRecDepth 100000 in
theorem c_W_takeWord (l : Launch) (E : xE) (hr h0 hs : Nat) (fo : Bool) (sl bd wr gr : Nat) (la : Int32) (last : Int64) (a0 n p : Nat) (f : Nat → Int32) (w : Int64) (hp : p + 66 ≤ n) (hn : n ≤ 2640) (hb : ∀ i, i < n → f i = 0 ∨ f i = 1) : xC l E y_W_takeWord (.code y_W_takeWord prog_8_method_6_code 6 none) rm_W_takeWord [.ref hr] [(hr, .inr (3, [.ref h0, .int (bI fo), .int (nI (sl)), .int (nI (bd)), .int (nI (wr)), .ref hs, .int (nI (gr)), .int (la), .long (last)])), (h0, .inr (0, [.ref a0, .int (nI (n)), .int (nI (p))])), (a0, .inl (E.2 0, 2640, .inl (f))), (hs, .inr (1, [.long (w)]))] (xRet none [(hr, .inr (3, [.ref h0, .int (bI fo), .int (nI (sl)), .int (nI (bd)), .int (nI (wr)), .ref hs, .int (nI (gr)), .int (la), .long ((twF f (p + 2) w 64).2)])), (h0, .inr (0, [.ref a0, .int (nI (n)), .int (nI (p + 66))])), (a0, .inl (E.2 0, 2640, .inl (f))), (hs, .inr (1, [.long ((twF f (p + 2) w 64).1)]))]) := by
  refine x_of' (own := "LineCoder$WordReceiver") (mn := "takeWord") (lv := [(0, .ref hr)]) (plainFor_of_name (by decide)) rfl rfl (Nat.le_of_ble_eq_true rfl) rfl ?_
  intro p_ e_ s_ m_ ar_ be_ me_ c_ A_ hA hB
  refine x_aload_n 1 hB d_W_takeWord_0 rfl rfl ?_
  refine x_get 4 hB 0 fg_W_47_3 rfl rfl d_W_takeWord_1 rfl ?_
  refine x_iconst (v := nI 2) 5 hB d_W_takeWord_4 rfl (by decide) ?_
  refine x_callD (k' := 0) (n' := 0) (rest := []) (wr := [(hr, .inr (3, [.ref h0, .int (bI fo), .int (nI (sl)), .int (nI (bd)), .int (nI (wr)), .ref hs, .int (nI (gr)), .int (la), .long (last)])), (a0, .inl (E.2 0, 2640, .inl (f))), (hs, .inr (1, [.long (w)]))]) (ws' := [(hr, .inr (3, [.ref h0, .int (bI fo), .int (nI (sl)), .int (nI (bd)), .int (nI (wr)), .ref hs, .int (nI (gr)), .int (la), .long (last)])), (a0, .inl (E.2 0, 2640, .inl (f))), (hs, .inr (1, [.long (w)])), (h0, .inr (0, [.ref a0, .int (nI (n)), .int (nI (p + 2))]))]) (st' := []) 8 hB (x_pfV (av := [.int (nI 2)]) (q0 := 1) hB w_187 xHd_code w_271 w_185 w_186 rfl rfl nm_L_advance rfl d_W_takeWord_5) (c_L_advance l E h0 a0 n p 2 (by omega) hn) w_187 xHd_code w_2 [1] [0, 2, 3] rfl rfl rfl rfl (by decide) ⟨by decide, by decide⟩ ⟨by decide, by decide⟩ rfl rfl (Nat.le_of_ble_eq_true rfl) d_W_takeWord_5 rfl rfl rfl ?_
  refine x_lconst (v := 0) 9 hB d_W_takeWord_8 rfl (by decide) ?_
  refine x_lstore_n 10 hB d_W_takeWord_9 rfl (by decide) (lv' := [(1, .long (0)), (0, .ref hr)]) rfl ?_
  refine x_iconst (v := nI 0) 11 hB d_W_takeWord_10 rfl (by decide) ?_
  refine x_istore_n 12 hB d_W_takeWord_11 rfl (by decide) (lv' := [(3, .int (nI 0)), (1, .long (0)), (0, .ref hr)]) rfl ?_
  refine x_lv (lv' := [(0, .ref hr), (1, .long (0)), (3, .int (nI 0))]) [2, 1, 0] rfl ?_
  refine x_loop (fun i : Nat => i ≤ 64) (fun i : Nat => 64 - i) (fun i : Nat => [(hr, .inr (3, [.ref h0, .int (bI fo), .int (nI (sl)), .int (nI (bd)), .int (nI (wr)), .ref hs, .int (nI (gr)), .int (la), .long (last)])), (a0, .inl (E.2 0, 2640, .inl (f))), (hs, .inr (1, [.long ((twF f (p + 2) w i).1)])), (h0, .inr (0, [.ref a0, .int (nI (n)), .int (nI (p + 2 + i))]))]) (fun i : Nat => [(0, .ref hr), (1, .long ((twF f (p + 2) w i).2)), (3, .int (nI (i)))]) (fun i : Nat => []) 0 (Nat.zero_le _) rfl rfl rfl (fun i hI12 IH12 => ?_)
  refine x_iload_n 13 hB d_W_takeWord_12 rfl rfl ?_
  refine x_bipush (v := nI 64) 15 hB d_W_takeWord_13 rfl (by decide) ?_
  refine x_icmp_ge 57 18 hB d_W_takeWord_15 (by decide) rfl (fun h15 => ?_) (fun h15 => ?_)
  · skip
    have hi : 64 = i := by have := (nI_leI (by omega) (by omega)).mp h15; omega
    subst hi
    refine x_aload_n 58 hB d_W_takeWord_57 rfl rfl ?_
    refine x_lload_n 59 hB d_W_takeWord_58 rfl rfl ?_
    refine x_put 62 hB 0 (ws' := [(hr, .inr (3, [.ref h0, .int (bI fo), .int (nI (sl)), .int (nI (bd)), .int (nI (wr)), .ref hs, .int (nI (gr)), .int (la), .long ((twF f (p + 2) w 64).2)])), (a0, .inl (E.2 0, 2640, .inl (f))), (hs, .inr (1, [.long ((twF f (p + 2) w 64).1)])), (h0, .inr (0, [.ref a0, .int (nI (n)), .int (nI (p + 2 + 64))]))]) fp_W_27_3 rfl (rfl) (rfl) (Nat.le_of_ble_eq_true rfl) rfl d_W_takeWord_59 rfl ?_
    exact x_vret hB (w' := [(hr, .inr (3, [.ref h0, .int (bI fo), .int (nI (sl)), .int (nI (bd)), .int (nI (wr)), .ref hs, .int (nI (gr)), .int (la), .long ((twF f (p + 2) w 64).2)])), (h0, .inr (0, [.ref a0, .int (nI (n)), .int (nI (p + 2 + 64))])), (a0, .inl (E.2 0, 2640, .inl (f))), (hs, .inr (1, [.long ((twF f (p + 2) w 64).1)]))]) hA [0, 3, 1, 2] rfl rfl (xRet_i) (by decide) (by decide) d_W_takeWord_62
  · skip
    have k15 : i < 64 := Nat.lt_of_not_le (fun h => h15 (nI_le h (by omega)))
    refine x_aload_n 19 hB d_W_takeWord_18 rfl rfl ?_
    refine x_get 22 hB 0 fg_W_14_3 rfl rfl d_W_takeWord_19 rfl ?_
    refine x_aload_n 23 hB d_W_takeWord_22 rfl rfl ?_
    refine x_get 26 hB 0 fg_W_47_3 rfl rfl d_W_takeWord_23 rfl ?_
    refine x_iconst (v := nI 1) 27 hB d_W_takeWord_26 rfl (by decide) ?_
    refine x_callP (k' := 0) (n' := 0) (rest := [.ref hs]) (st' := [.int (ahF f (p + 2 + i) 1), .ref hs]) 30 hB (x_pfV (av := [.int (nI 1)]) (q0 := 3) hB w_169 xHd_code w_263 w_167 w_168 rfl rfl nm_L_ahead rfl d_W_takeWord_27) (c_L_ahead l E h0 a0 n (p + 2 + i) f 1 (by omega) hn hb) w_169 xHd_code w_2 [3, 1] rfl rfl ⟨by decide, by decide⟩ ⟨by decide, by decide⟩ rfl rfl (Nat.le_of_ble_eq_true rfl) d_W_takeWord_27 rfl rfl ?_
    refine x_top (v' := .int (f (p + 2 + i))) (congrArg Value.int (ah1 (hb _ (by omega)))) ?_
    refine x_callD (k' := 0) (n' := 0) (rest := []) (wr := [(hr, .inr (3, [.ref h0, .int (bI fo), .int (nI (sl)), .int (nI (bd)), .int (nI (wr)), .ref hs, .int (nI (gr)), .int (la), .long (last)])), (a0, .inl (E.2 0, 2640, .inl (f))), (h0, .inr (0, [.ref a0, .int (nI (n)), .int (nI (p + 2 + i))]))]) (ws' := [(hr, .inr (3, [.ref h0, .int (bI fo), .int (nI (sl)), .int (nI (bd)), .int (nI (wr)), .ref hs, .int (nI (gr)), .int (la), .long (last)])), (a0, .inl (E.2 0, 2640, .inl (f))), (h0, .inr (0, [.ref a0, .int (nI (n)), .int (nI (p + 2 + i))])), (hs, .inr (1, [.long ((twF f (p + 2) w (i + 1)).1)]))]) (st' := [.int (f (p + 2 + i) ^^^ turF (twF f (p + 2) w i).1)]) 33 hB (x_pfV (av := [.int (f (p + 2 + i))]) (q0 := 2) hB w_275 xHd_code w_272 w_273 w_274 rfl rfl nm_S_stirBack rfl d_W_takeWord_30) (c_S_stirBack l E hs (twF f (p + 2) w i).1 (f (p + 2 + i))) w_275 xHd_code w_6 [2] [0, 1, 3] rfl rfl rfl rfl (by decide) ⟨by decide, by decide⟩ ⟨by decide, by decide⟩ rfl rfl (Nat.le_of_ble_eq_true rfl) d_W_takeWord_30 rfl rfl rfl ?_
    refine x_i2l (v := (f (p + 2 + i) ^^^ turF (twF f (p + 2) w i).1).toInt64) 34 hB d_W_takeWord_33 rfl (rfl) ?_
    refine x_lstore 36 hB d_W_takeWord_34 rfl (by decide) (lv' := [(4, .long ((f (p + 2 + i) ^^^ turF (twF f (p + 2) w i).1).toInt64)), (0, .ref hr), (1, .long ((twF f (p + 2) w i).2)), (3, .int (nI (i)))]) rfl ?_
    refine x_aload_n 37 hB d_W_takeWord_36 rfl rfl ?_
    refine x_get 40 hB 0 fg_W_47_3 rfl rfl d_W_takeWord_37 rfl ?_
    refine x_iconst (v := nI 1) 41 hB d_W_takeWord_40 rfl (by decide) ?_
    refine x_callD (k' := 0) (n' := 0) (rest := []) (wr := [(hr, .inr (3, [.ref h0, .int (bI fo), .int (nI (sl)), .int (nI (bd)), .int (nI (wr)), .ref hs, .int (nI (gr)), .int (la), .long (last)])), (a0, .inl (E.2 0, 2640, .inl (f))), (hs, .inr (1, [.long ((twF f (p + 2) w (i + 1)).1)]))]) (ws' := [(hr, .inr (3, [.ref h0, .int (bI fo), .int (nI (sl)), .int (nI (bd)), .int (nI (wr)), .ref hs, .int (nI (gr)), .int (la), .long (last)])), (a0, .inl (E.2 0, 2640, .inl (f))), (hs, .inr (1, [.long ((twF f (p + 2) w (i + 1)).1)])), (h0, .inr (0, [.ref a0, .int (nI (n)), .int (nI (p + 2 + (i + 1)))]))]) (st' := []) 44 hB (x_pfV (av := [.int (nI 1)]) (q0 := 2) hB w_187 xHd_code w_271 w_185 w_186 rfl rfl nm_L_advance rfl d_W_takeWord_41) (c_L_advance l E h0 a0 n (p + 2 + i) 1 (by omega) hn) w_187 xHd_code w_2 [2] [0, 1, 3] rfl rfl rfl rfl (by decide) ⟨by decide, by decide⟩ ⟨by decide, by decide⟩ rfl rfl (Nat.le_of_ble_eq_true rfl) d_W_takeWord_41 rfl rfl rfl ?_
    refine x_lload_n 45 hB d_W_takeWord_44 rfl rfl ?_
    refine x_lload 47 hB d_W_takeWord_45 rfl rfl ?_
    refine x_iload_n 48 hB d_W_takeWord_47 rfl rfl ?_
    refine x_lshl (v := (f (p + 2 + i) ^^^ turF (twF f (p + 2) w i).1).toInt64 <<< ((nI i).toInt64 &&& 63)) 49 hB d_W_takeWord_48 rfl (rfl) ?_
    refine x_lor 50 hB d_W_takeWord_49 rfl ?_
    refine x_top (v' := .long ((twF f (p + 2) w (i + 1)).2)) (congrArg Value.long (rfl)) ?_
    refine x_lstore_n 51 hB d_W_takeWord_50 rfl (by decide) (lv' := [(1, .long ((twF f (p + 2) w (i + 1)).2)), (4, .long ((f (p + 2 + i) ^^^ turF (twF f (p + 2) w i).1).toInt64)), (0, .ref hr), (3, .int (nI (i)))]) rfl ?_
    refine x_iinc (v := nI (i + 1)) 54 hB d_W_takeWord_51 rfl 3 rfl ((nI_succ i).symm) (by decide) (lv' := [(3, .int (nI (i + 1))), (1, .long ((twF f (p + 2) w (i + 1)).2)), (4, .long ((f (p + 2 + i) ^^^ turF (twF f (p + 2) w i).1).toInt64)), (0, .ref hr)]) rfl ?_
    refine x_goto 12 hB d_W_takeWord_54 (by decide) ?_
    refine x_lv (lv' := [(0, .ref hr), (1, .long ((twF f (p + 2) w (i + 1)).2)), (3, .int (nI (i + 1)))]) [3, 1, 0] rfl ?_
    exact IH12 (i + 1) k15 (by omega)
abbrev rm_W_step_0 : Room := { frames := 4, cells := 0, slots := 0, locals := 90 }
set_option maxHeartbeats 4000000 in
set_option maxRecDepth 100000 in
theorem c_W_step_0 (l : Launch) (E : xE) (hr h0 hs : Nat) (fo : Bool) (sl bd wr gr : Nat) (la : Int32) (last : Int64) (a0 n p : Nat) (f : Nat → Int32) (w : Int64) (hn : n ≤ 2640) (hb : ∀ i, i < n → f i = 0 ∨ f i = 1) (hg : gr ≤ 8) (hp : p ≤ n) (hc : n - p < 66) : xC l E y_W_step (.code y_W_step prog_8_method_5_code 3 (some .int)) rm_W_step_0 [.ref hr] [(hr, .inr (3, [.ref h0, .int (bI fo), .int (nI (sl)), .int (nI (bd)), .int (nI (wr)), .ref hs, .int (nI (gr)), .int (la), .long (last)])), (h0, .inr (0, [.ref a0, .int (nI (n)), .int (nI (p))])), (a0, .inl (E.2 0, 2640, .inl (f))), (hs, .inr (1, [.long (w)]))] (xRet (some (.int (-1))) [(hr, .inr (3, [.ref h0, .int (bI fo), .int (nI (sl)), .int (nI (bd)), .int (nI (wr)), .ref hs, .int (nI (gr)), .int (la), .long (last)])), (h0, .inr (0, [.ref a0, .int (nI (n)), .int (nI (p))])), (a0, .inl (E.2 0, 2640, .inl (f))), (hs, .inr (1, [.long (w)]))]) := by
  refine x_of' (own := "LineCoder$WordReceiver") (mn := "step") (lv := [(0, .ref hr)]) (plainFor_of_name (by decide)) rfl rfl (Nat.le_of_ble_eq_true rfl) rfl ?_
  intro p_ e_ s_ m_ ar_ be_ me_ c_ A_ hA hB
  refine x_aload_n 1 hB d_W_step_0 rfl rfl ?_
  refine x_get 4 hB 0 fg_W_47_3 rfl rfl d_W_step_1 rfl ?_
  refine x_callP (k' := 0) (n' := 0) (rest := []) (st' := [.int (nI (n - p))]) 7 hB (x_pfV (av := []) (q0 := 1) hB w_161 xHd_code w_262 w_159 w_160 rfl rfl nm_L_left rfl d_W_step_4) (c_L_left l E h0 a0 n p hp) w_161 xHd_code w_2 [1] rfl rfl ⟨by decide, by decide⟩ ⟨by decide, by decide⟩ rfl rfl (Nat.le_of_ble_eq_true rfl) d_W_step_4 rfl rfl ?_
  refine x_bipush (v := nI 66) 9 hB d_W_step_7 rfl (by decide) ?_
  refine x_icmp_ge 14 12 hB d_W_step_9 (by decide) rfl (fun hc => absurd hc (nI_ge (by omega) (by omega))) (fun _ => ?_)
  refine x_iconst (v := (-1 : Int32)) 13 hB d_W_step_12 rfl (by decide) ?_
  exact x_iret hB (w' := [(hr, .inr (3, [.ref h0, .int (bI fo), .int (nI (sl)), .int (nI (bd)), .int (nI (wr)), .ref hs, .int (nI (gr)), .int (la), .long (last)])), (h0, .inr (0, [.ref a0, .int (nI (n)), .int (nI (p))])), (a0, .inl (E.2 0, 2640, .inl (f))), (hs, .inr (1, [.long (w)]))]) hA [0, 1, 2, 3] rfl rfl (xRet_i) (by decide) (by decide) d_W_step_13
abbrev rm_W_step_1 : Room := { frames := 4, cells := 0, slots := 0, locals := 90 }
set_option maxHeartbeats 4000000 in
set_option maxRecDepth 100000 in
theorem c_W_step_1 (l : Launch) (E : xE) (hr h0 hs : Nat) (sl bd wr gr : Nat) (la : Int32) (last : Int64) (a0 n p : Nat) (f : Nat → Int32) (w : Int64) (hn : n ≤ 2640) (hb : ∀ i, i < n → f i = 0 ∨ f i = 1) (hg : gr ≤ 8) (hp : p ≤ n) (hc : ¬ n - p < 66) (hG : gdF f p = false) : xC l E y_W_step (.code y_W_step prog_8_method_5_code 3 (some .int)) rm_W_step_1 [.ref hr] [(hr, .inr (3, [.ref h0, .int (bI false), .int (nI (sl)), .int (nI (bd)), .int (nI (wr)), .ref hs, .int (nI (gr)), .int (la), .long (last)])), (h0, .inr (0, [.ref a0, .int (nI (n)), .int (nI (p))])), (a0, .inl (E.2 0, 2640, .inl (f))), (hs, .inr (1, [.long (w)]))] (xRet (some (.int (-3))) [(hr, .inr (3, [.ref h0, .int (bI false), .int (nI (sl + 1)), .int (nI (bd)), .int (nI (wr)), .ref hs, .int (nI 0), .int (la), .long (last)])), (h0, .inr (0, [.ref a0, .int (nI (n)), .int (nI (p + 1))])), (a0, .inl (E.2 0, 2640, .inl (f))), (hs, .inr (1, [.long (w)]))]) := by
  refine x_of' (own := "LineCoder$WordReceiver") (mn := "step") (lv := [(0, .ref hr)]) (plainFor_of_name (by decide)) rfl rfl (Nat.le_of_ble_eq_true rfl) rfl ?_
  intro p_ e_ s_ m_ ar_ be_ me_ c_ A_ hA hB
  refine x_aload_n 1 hB d_W_step_0 rfl rfl ?_
  refine x_get 4 hB 0 fg_W_47_3 rfl rfl d_W_step_1 rfl ?_
  refine x_callP (k' := 0) (n' := 0) (rest := []) (st' := [.int (nI (n - p))]) 7 hB (x_pfV (av := []) (q0 := 1) hB w_161 xHd_code w_262 w_159 w_160 rfl rfl nm_L_left rfl d_W_step_4) (c_L_left l E h0 a0 n p hp) w_161 xHd_code w_2 [1] rfl rfl ⟨by decide, by decide⟩ ⟨by decide, by decide⟩ rfl rfl (Nat.le_of_ble_eq_true rfl) d_W_step_4 rfl rfl ?_
  refine x_bipush (v := nI 66) 9 hB d_W_step_7 rfl (by decide) ?_
  refine x_icmp_ge 14 12 hB d_W_step_9 (by decide) rfl (fun _ => ?_) (fun hc => absurd (nI_le (by omega) (by omega)) hc)
  refine x_aload_n 15 hB d_W_step_14 rfl rfl ?_
  refine x_get 18 hB 0 fg_W_47_3 rfl rfl d_W_step_15 rfl ?_
  refine x_iconst (v := nI 2) 19 hB d_W_step_18 rfl (by decide) ?_
  refine x_callP (k' := 0) (n' := 0) (rest := []) (st' := [.int (ahF f p 2)]) 22 hB (x_pfV (av := [.int (nI 2)]) (q0 := 1) hB w_169 xHd_code w_263 w_167 w_168 rfl rfl nm_L_ahead rfl d_W_step_19) (c_L_ahead l E h0 a0 n p f 2 (by omega) hn hb) w_169 xHd_code w_2 [1, 2] rfl rfl ⟨by decide, by decide⟩ ⟨by decide, by decide⟩ rfl rfl (Nat.le_of_ble_eq_true rfl) d_W_step_19 rfl rfl ?_
  refine x_top (v' := .int (nI (ahN f p 2))) (congrArg Value.int (ah_e hb 2 (by omega) (by omega))) ?_
  have hl2 : ahN f p 2 < 4 := ahN_lt f p 2
  refine x_istore_n 23 hB d_W_step_22 rfl (by decide) (lv' := [(1, .int (nI (ahN f p 2))), (0, .ref hr)]) rfl ?_
  refine x_join 38 (fun _u : Unit => True) (fun _u : Unit => [(hr, .inr (3, [.ref h0, .int (bI false), .int (nI (sl)), .int (nI (bd)), .int (nI (wr)), .ref hs, .int (nI (gr)), .int (la), .long (last)])), (h0, .inr (0, [.ref a0, .int (nI (n)), .int (nI (p))])), (a0, .inl (E.2 0, 2640, .inl (f))), (hs, .inr (1, [.long (w)]))]) (fun _u : Unit => [(0, .ref hr), (1, .int (nI (ahN f p 2)))]) (fun _u : Unit => [.int (nI 0)]) (fun _u hJ38 => ?_) (fun J38 => ?_)
  · skip
    refine x_istore_n 39 hB d_W_step_38 rfl (by decide) (lv' := [(2, .int (nI 0)), (0, .ref hr), (1, .int (nI (ahN f p 2)))]) rfl ?_
    refine x_aload_n 40 hB d_W_step_39 rfl rfl ?_
    refine x_get 43 hB 0 fg_W_37_3 rfl rfl d_W_step_40 rfl ?_
    refine x_if_ne 60 46 hB d_W_step_43 (by decide) rfl (fun hc => absurd (rfl) hc) (fun _ => ?_)
    refine x_iload_n 47 hB d_W_step_46 rfl rfl ?_
    refine x_if_ne 60 50 hB d_W_step_47 (by decide) rfl (fun hc => absurd (by decide) hc) (fun _ => ?_)
    refine x_aload_n 51 hB d_W_step_50 rfl rfl ?_
    refine x_iconst (v := nI 0) 52 hB d_W_step_51 rfl (by decide) ?_
    refine x_put 55 hB 0 (ws' := [(hr, .inr (3, [.ref h0, .int (bI false), .int (nI (sl)), .int (nI (bd)), .int (nI (wr)), .ref hs, .int (nI 0), .int (la), .long (last)])), (h0, .inr (0, [.ref a0, .int (nI (n)), .int (nI (p))])), (a0, .inl (E.2 0, 2640, .inl (f))), (hs, .inr (1, [.long (w)]))]) fp_W_20_3 rfl (rfl) (rfl) (Nat.le_of_ble_eq_true rfl) rfl d_W_step_52 rfl ?_
    refine x_aload_n 56 hB d_W_step_55 rfl rfl ?_
    refine x_callD (k' := 0) (n' := 0) (rest := []) (wr := [(a0, .inl (E.2 0, 2640, .inl (f))), (hs, .inr (1, [.long (w)]))]) (ws' := [(a0, .inl (E.2 0, 2640, .inl (f))), (hs, .inr (1, [.long (w)])), (hr, .inr (3, [.ref h0, .int (bI false), .int (nI (sl + 1)), .int (nI (bd)), .int (nI (wr)), .ref hs, .int (nI 0), .int (la), .long (last)])), (h0, .inr (0, [.ref a0, .int (nI (n)), .int (nI (p + 1))]))]) (st' := [.int (-3)]) 59 hB (x_pfU (av := []) (q0 := 0) (x := ⟨"LineCoder$WordReceiver", "slip", "()I"⟩) (owner := "LineCoder$Receiver") hB w_183 xHd_code w_264 w_265 (va_Decl.of (hB.qt _ w_182) (hB.qt _ w_183)) w_182 w_266 rfl rfl (by decide) ⟨⟨by decide +kernel, by decide +kernel⟩, by decide +kernel⟩ rfl d_W_step_56) (c_R_slip_W l E hr h0 hs false sl bd wr 0 la last a0 n p (by omega) hn) w_183 xHd_code w_3 [0, 1] [2, 3] rfl rfl rfl rfl (by decide) ⟨by decide, by decide⟩ ⟨by decide, by decide⟩ rfl rfl (Nat.le_of_ble_eq_true rfl) d_W_step_56 rfl rfl rfl ?_
    exact x_iret hB (w' := [(hr, .inr (3, [.ref h0, .int (bI false), .int (nI (sl + 1)), .int (nI (bd)), .int (nI (wr)), .ref hs, .int (nI 0), .int (la), .long (last)])), (h0, .inr (0, [.ref a0, .int (nI (n)), .int (nI (p + 1))])), (a0, .inl (E.2 0, 2640, .inl (f))), (hs, .inr (1, [.long (w)]))]) hA [2, 3, 0, 1] rfl rfl (xRet_i) (by decide) (by decide) d_W_step_59
  refine x_iload_n 24 hB d_W_step_23 rfl rfl ?_
  refine x_iconst (v := nI 1) 25 hB d_W_step_24 rfl (by decide) ?_
  refine x_icmp_eq 33 28 hB d_W_step_25 (by decide) rfl (fun h25 => ?_) (fun h25 => ?_)
  · skip
    have k25 : ahN f p 2 = 1 := (nI_eq (by omega) (by omega)).mp h25
    refine x_iconst (v := nI 1) 34 hB d_W_step_33 rfl (by decide) ?_
    refine x_top (v' := .int (nI 0)) (congrArg Value.int (absurd (decide_eq_true (Or.inl k25)) (by rw [show decide _ = gdF f p from rfl, hG]; decide))) ?_
    refine x_goto 38 hB d_W_step_34 (by decide) ?_
    refine x_lv (lv' := [(0, .ref hr), (1, .int (nI (ahN f p 2)))]) [1, 0] rfl ?_
    exact J38 () trivial
  · skip
    have k25 : ¬ ahN f p 2 = 1 := fun h => h25 ((nI_eq (by omega) (by omega)).mpr h)
    refine x_iload_n 29 hB d_W_step_28 rfl rfl ?_
    refine x_iconst (v := nI 2) 30 hB d_W_step_29 rfl (by decide) ?_
    refine x_icmp_ne 37 33 hB d_W_step_30 (by decide) rfl (fun h30 => ?_) (fun h30 => ?_)
    · skip
      have k30 : ¬ ahN f p 2 = 2 := fun h => h30 ((nI_eq (by omega) (by omega)).mpr h)
      refine x_iconst (v := nI 0) 38 hB d_W_step_37 rfl (by decide) ?_
      refine x_lv (lv' := [(0, .ref hr), (1, .int (nI (ahN f p 2)))]) [1, 0] rfl ?_
      exact J38 () trivial
    · skip
      have k30 : ahN f p 2 = 2 := (nI_eq (by omega) (by omega)).mp h30
      refine x_iconst (v := nI 1) 34 hB d_W_step_33 rfl (by decide) ?_
      refine x_top (v' := .int (nI 0)) (congrArg Value.int (absurd (decide_eq_true (Or.inr k30)) (by rw [show decide _ = gdF f p from rfl, hG]; decide))) ?_
      refine x_goto 38 hB d_W_step_34 (by decide) ?_
      refine x_lv (lv' := [(0, .ref hr), (1, .int (nI (ahN f p 2)))]) [1, 0] rfl ?_
      exact J38 () trivial
abbrev rm_W_step_2 : Room := { frames := 4, cells := 0, slots := 0, locals := 90 }
set_option maxHeartbeats 4000000 in
set_option maxRecDepth 100000 in
theorem c_W_step_2 (l : Launch) (E : xE) (hr h0 hs : Nat) (sl bd wr gr : Nat) (la : Int32) (last : Int64) (a0 n p : Nat) (f : Nat → Int32) (w : Int64) (hn : n ≤ 2640) (hb : ∀ i, i < n → f i = 0 ∨ f i = 1) (hg : gr ≤ 8) (hp : p ≤ n) (hc : ¬ n - p < 66) (hG : gdF f p = true) : xC l E y_W_step (.code y_W_step prog_8_method_5_code 3 (some .int)) rm_W_step_2 [.ref hr] [(hr, .inr (3, [.ref h0, .int (bI false), .int (nI (sl)), .int (nI (bd)), .int (nI (wr)), .ref hs, .int (nI (gr)), .int (la), .long (last)])), (h0, .inr (0, [.ref a0, .int (nI (n)), .int (nI (p))])), (a0, .inl (E.2 0, 2640, .inl (f))), (hs, .inr (1, [.long (w)]))] (xRet (some (.int (bI (decide (ahN f p 2 = 2))))) [(hr, .inr (3, [.ref h0, .int (bI (if 8 ≤ gr + 1 then true else false)), .int (nI (sl)), .int (nI (bd)), .int (nI (wr)), .ref hs, .int (nI (gr + 1)), .int (if 8 ≤ gr + 1 then nI 0 else la), .long ((twF f (p + 2) w 64).2)])), (h0, .inr (0, [.ref a0, .int (nI (n)), .int (nI (p + 66))])), (a0, .inl (E.2 0, 2640, .inl (f))), (hs, .inr (1, [.long ((twF f (p + 2) w 64).1)]))]) := by
  refine x_of' (own := "LineCoder$WordReceiver") (mn := "step") (lv := [(0, .ref hr)]) (plainFor_of_name (by decide)) rfl rfl (Nat.le_of_ble_eq_true rfl) rfl ?_
  intro p_ e_ s_ m_ ar_ be_ me_ c_ A_ hA hB
  refine x_aload_n 1 hB d_W_step_0 rfl rfl ?_
  refine x_get 4 hB 0 fg_W_47_3 rfl rfl d_W_step_1 rfl ?_
  refine x_callP (k' := 0) (n' := 0) (rest := []) (st' := [.int (nI (n - p))]) 7 hB (x_pfV (av := []) (q0 := 1) hB w_161 xHd_code w_262 w_159 w_160 rfl rfl nm_L_left rfl d_W_step_4) (c_L_left l E h0 a0 n p hp) w_161 xHd_code w_2 [1] rfl rfl ⟨by decide, by decide⟩ ⟨by decide, by decide⟩ rfl rfl (Nat.le_of_ble_eq_true rfl) d_W_step_4 rfl rfl ?_
  refine x_bipush (v := nI 66) 9 hB d_W_step_7 rfl (by decide) ?_
  refine x_icmp_ge 14 12 hB d_W_step_9 (by decide) rfl (fun _ => ?_) (fun hc => absurd (nI_le (by omega) (by omega)) hc)
  refine x_aload_n 15 hB d_W_step_14 rfl rfl ?_
  refine x_get 18 hB 0 fg_W_47_3 rfl rfl d_W_step_15 rfl ?_
  refine x_iconst (v := nI 2) 19 hB d_W_step_18 rfl (by decide) ?_
  refine x_callP (k' := 0) (n' := 0) (rest := []) (st' := [.int (ahF f p 2)]) 22 hB (x_pfV (av := [.int (nI 2)]) (q0 := 1) hB w_169 xHd_code w_263 w_167 w_168 rfl rfl nm_L_ahead rfl d_W_step_19) (c_L_ahead l E h0 a0 n p f 2 (by omega) hn hb) w_169 xHd_code w_2 [1, 2] rfl rfl ⟨by decide, by decide⟩ ⟨by decide, by decide⟩ rfl rfl (Nat.le_of_ble_eq_true rfl) d_W_step_19 rfl rfl ?_
  refine x_top (v' := .int (nI (ahN f p 2))) (congrArg Value.int (ah_e hb 2 (by omega) (by omega))) ?_
  have hl2 : ahN f p 2 < 4 := ahN_lt f p 2
  refine x_istore_n 23 hB d_W_step_22 rfl (by decide) (lv' := [(1, .int (nI (ahN f p 2))), (0, .ref hr)]) rfl ?_
  refine x_join 38 (fun _u : Unit => True) (fun _u : Unit => [(hr, .inr (3, [.ref h0, .int (bI false), .int (nI (sl)), .int (nI (bd)), .int (nI (wr)), .ref hs, .int (nI (gr)), .int (la), .long (last)])), (h0, .inr (0, [.ref a0, .int (nI (n)), .int (nI (p))])), (a0, .inl (E.2 0, 2640, .inl (f))), (hs, .inr (1, [.long (w)]))]) (fun _u : Unit => [(0, .ref hr), (1, .int (nI (ahN f p 2)))]) (fun _u : Unit => [.int (nI 1)]) (fun _u hJ38 => ?_) (fun J38 => ?_)
  · skip
    refine x_istore_n 39 hB d_W_step_38 rfl (by decide) (lv' := [(2, .int (nI 1)), (0, .ref hr), (1, .int (nI (ahN f p 2)))]) rfl ?_
    refine x_aload_n 40 hB d_W_step_39 rfl rfl ?_
    refine x_get 43 hB 0 fg_W_37_3 rfl rfl d_W_step_40 rfl ?_
    refine x_if_ne 60 46 hB d_W_step_43 (by decide) rfl (fun hc => absurd (rfl) hc) (fun _ => ?_)
    refine x_iload_n 47 hB d_W_step_46 rfl rfl ?_
    refine x_if_ne 60 50 hB d_W_step_47 (by decide) rfl (fun _ => ?_) (fun hc => absurd hc (by decide))
    refine x_aload_n 61 hB d_W_step_60 rfl rfl ?_
    refine x_callD (k' := 0) (n' := 0) (rest := []) (wr := []) (ws' := [(hr, .inr (3, [.ref h0, .int (bI false), .int (nI (sl)), .int (nI (bd)), .int (nI (wr)), .ref hs, .int (nI (gr)), .int (la), .long ((twF f (p + 2) w 64).2)])), (h0, .inr (0, [.ref a0, .int (nI (n)), .int (nI (p + 66))])), (a0, .inl (E.2 0, 2640, .inl (f))), (hs, .inr (1, [.long ((twF f (p + 2) w 64).1)]))]) (st' := []) 64 hB (x_pfV (av := []) (q0 := 0) hB w_270 xHd_code w_267 w_269 s_W_takeWord rfl rfl nm_W_takeWord rfl d_W_step_61) (c_W_takeWord l E hr h0 hs false sl bd wr gr la last a0 n p f w (by omega) hn hb) w_270 xHd_code w_5 [0, 1, 2, 3] [] rfl rfl rfl rfl (by decide) ⟨by decide, by decide⟩ ⟨by decide, by decide⟩ rfl rfl (Nat.le_of_ble_eq_true rfl) d_W_step_61 rfl rfl rfl ?_
    refine x_aload_n 65 hB d_W_step_64 rfl rfl ?_
    refine x_get 68 hB 0 fg_W_37_3 rfl rfl d_W_step_65 rfl ?_
    refine x_if_eq 79 71 hB d_W_step_68 (by decide) rfl (fun _ => ?_) (fun hc => absurd (rfl) hc)
    refine x_aload_n 80 hB d_W_step_79 rfl rfl ?_
    refine x_callD (k' := 0) (n' := 0) (rest := []) (wr := [(h0, .inr (0, [.ref a0, .int (nI (n)), .int (nI (p + 66))])), (a0, .inl (E.2 0, 2640, .inl (f))), (hs, .inr (1, [.long ((twF f (p + 2) w 64).1)]))]) (ws' := [(h0, .inr (0, [.ref a0, .int (nI (n)), .int (nI (p + 66))])), (a0, .inl (E.2 0, 2640, .inl (f))), (hs, .inr (1, [.long ((twF f (p + 2) w 64).1)])), (hr, .inr (3, [.ref h0, .int (bI (if 8 ≤ gr + 1 then true else false)), .int (nI (sl)), .int (nI (bd)), .int (nI (wr)), .ref hs, .int (nI (gr + 1)), .int (if 8 ≤ gr + 1 then nI 0 else la), .long ((twF f (p + 2) w 64).2)]))]) (st' := []) 83 hB (x_pfV (av := []) (q0 := 0) hB w_293 xHd_code w_290 w_292 s_W_gain rfl rfl nm_W_gain rfl d_W_step_80) (c_W_gain l E hr h0 hs false sl bd wr gr la ((twF f (p + 2) w 64).2) hg) w_293 xHd_code w_5 [0] [1, 2, 3] rfl rfl rfl rfl (by decide) ⟨by decide, by decide⟩ ⟨by decide, by decide⟩ rfl rfl (Nat.le_of_ble_eq_true rfl) d_W_step_80 rfl rfl rfl ?_
    refine x_iload_n 84 hB d_W_step_83 rfl rfl ?_
    refine x_if_ne 100 87 hB d_W_step_84 (by decide) rfl (fun _ => ?_) (fun hc => absurd hc (by decide))
    refine x_iload_n 101 hB d_W_step_100 rfl rfl ?_
    refine x_iconst (v := nI 2) 102 hB d_W_step_101 rfl (by decide) ?_
    refine x_icmp_ne 109 105 hB d_W_step_102 (by decide) rfl (fun h102 => ?_) (fun h102 => ?_)
    · skip
      have k102 : ¬ ahN f p 2 = 2 := fun h => h102 ((nI_eq (by omega) (by omega)).mpr h)
      refine x_iconst (v := nI 0) 110 hB d_W_step_109 rfl (by decide) ?_
      exact x_iret hB (w' := [(hr, .inr (3, [.ref h0, .int (bI (if 8 ≤ gr + 1 then true else false)), .int (nI (sl)), .int (nI (bd)), .int (nI (wr)), .ref hs, .int (nI (gr + 1)), .int (if 8 ≤ gr + 1 then nI 0 else la), .long ((twF f (p + 2) w 64).2)])), (h0, .inr (0, [.ref a0, .int (nI (n)), .int (nI (p + 66))])), (a0, .inl (E.2 0, 2640, .inl (f))), (hs, .inr (1, [.long ((twF f (p + 2) w 64).1)]))]) hA [3, 0, 1, 2] rfl rfl (⟨by rw [show (nI 0) = bI (decide (ahN f p 2 = 2)) from bF0 (decide_eq_false k102)], rfl⟩) (by decide) (by decide) d_W_step_110
    · skip
      have k102 : ahN f p 2 = 2 := (nI_eq (by omega) (by omega)).mp h102
      refine x_iconst (v := nI 1) 106 hB d_W_step_105 rfl (by decide) ?_
      refine x_goto 110 hB d_W_step_106 (by decide) ?_
      exact x_iret hB (w' := [(hr, .inr (3, [.ref h0, .int (bI (if 8 ≤ gr + 1 then true else false)), .int (nI (sl)), .int (nI (bd)), .int (nI (wr)), .ref hs, .int (nI (gr + 1)), .int (if 8 ≤ gr + 1 then nI 0 else la), .long ((twF f (p + 2) w 64).2)])), (h0, .inr (0, [.ref a0, .int (nI (n)), .int (nI (p + 66))])), (a0, .inl (E.2 0, 2640, .inl (f))), (hs, .inr (1, [.long ((twF f (p + 2) w 64).1)]))]) hA [3, 0, 1, 2] rfl rfl (⟨by rw [show (nI 1) = bI (decide (ahN f p 2 = 2)) from bT (decide_eq_true k102)], rfl⟩) (by decide) (by decide) d_W_step_110
  refine x_iload_n 24 hB d_W_step_23 rfl rfl ?_
  refine x_iconst (v := nI 1) 25 hB d_W_step_24 rfl (by decide) ?_
  refine x_icmp_eq 33 28 hB d_W_step_25 (by decide) rfl (fun h25 => ?_) (fun h25 => ?_)
  · skip
    have k25 : ahN f p 2 = 1 := (nI_eq (by omega) (by omega)).mp h25
    refine x_iconst (v := nI 1) 34 hB d_W_step_33 rfl (by decide) ?_
    refine x_goto 38 hB d_W_step_34 (by decide) ?_
    refine x_lv (lv' := [(0, .ref hr), (1, .int (nI (ahN f p 2)))]) [1, 0] rfl ?_
    exact J38 () trivial
  · skip
    have k25 : ¬ ahN f p 2 = 1 := fun h => h25 ((nI_eq (by omega) (by omega)).mpr h)
    refine x_iload_n 29 hB d_W_step_28 rfl rfl ?_
    refine x_iconst (v := nI 2) 30 hB d_W_step_29 rfl (by decide) ?_
    refine x_icmp_ne 37 33 hB d_W_step_30 (by decide) rfl (fun h30 => ?_) (fun h30 => ?_)
    · skip
      have k30 : ¬ ahN f p 2 = 2 := fun h => h30 ((nI_eq (by omega) (by omega)).mpr h)
      refine x_iconst (v := nI 0) 38 hB d_W_step_37 rfl (by decide) ?_
      refine x_top (v' := .int (nI 1)) (congrArg Value.int (absurd (of_decide_eq_true hG) (fun h => h.elim k25 k30))) ?_
      refine x_lv (lv' := [(0, .ref hr), (1, .int (nI (ahN f p 2)))]) [1, 0] rfl ?_
      exact J38 () trivial
    · skip
      have k30 : ahN f p 2 = 2 := (nI_eq (by omega) (by omega)).mp h30
      refine x_iconst (v := nI 1) 34 hB d_W_step_33 rfl (by decide) ?_
      refine x_goto 38 hB d_W_step_34 (by decide) ?_
      refine x_lv (lv' := [(0, .ref hr), (1, .int (nI (ahN f p 2)))]) [1, 0] rfl ?_
      exact J38 () trivial
abbrev rm_W_step_3 : Room := { frames := 4, cells := 0, slots := 0, locals := 90 }
set_option maxHeartbeats 4000000 in
set_option maxRecDepth 100000 in
theorem c_W_step_3 (l : Launch) (E : xE) (hr h0 hs : Nat) (sl bd wr gr : Nat) (la : Int32) (last : Int64) (a0 n p : Nat) (f : Nat → Int32) (w : Int64) (hn : n ≤ 2640) (hb : ∀ i, i < n → f i = 0 ∨ f i = 1) (hg : gr ≤ 8) (hp : p ≤ n) (hc : ¬ n - p < 66) (hG : gdF f p = true) : xC l E y_W_step (.code y_W_step prog_8_method_5_code 3 (some .int)) rm_W_step_3 [.ref hr] [(hr, .inr (3, [.ref h0, .int (bI true), .int (nI (sl)), .int (nI (bd)), .int (nI (wr)), .ref hs, .int (nI (gr)), .int (la), .long (last)])), (h0, .inr (0, [.ref a0, .int (nI (n)), .int (nI (p))])), (a0, .inl (E.2 0, 2640, .inl (f))), (hs, .inr (1, [.long (w)]))] (xRet (some (.int (bI (decide (ahN f p 2 = 2))))) [(hr, .inr (3, [.ref h0, .int (bI (if lt4 (wlF la true) then true else false)), .int (nI (sl)), .int (nI (bd)), .int (nI (wr)), .ref hs, .int (nI (if lt4 (wlF la true) then gr else 0)), .int (wlF la true), .long ((twF f (p + 2) w 64).2)])), (h0, .inr (0, [.ref a0, .int (nI (n)), .int (nI (p + 66))])), (a0, .inl (E.2 0, 2640, .inl (f))), (hs, .inr (1, [.long ((twF f (p + 2) w 64).1)]))]) := by
  refine x_of' (own := "LineCoder$WordReceiver") (mn := "step") (lv := [(0, .ref hr)]) (plainFor_of_name (by decide)) rfl rfl (Nat.le_of_ble_eq_true rfl) rfl ?_
  intro p_ e_ s_ m_ ar_ be_ me_ c_ A_ hA hB
  refine x_aload_n 1 hB d_W_step_0 rfl rfl ?_
  refine x_get 4 hB 0 fg_W_47_3 rfl rfl d_W_step_1 rfl ?_
  refine x_callP (k' := 0) (n' := 0) (rest := []) (st' := [.int (nI (n - p))]) 7 hB (x_pfV (av := []) (q0 := 1) hB w_161 xHd_code w_262 w_159 w_160 rfl rfl nm_L_left rfl d_W_step_4) (c_L_left l E h0 a0 n p hp) w_161 xHd_code w_2 [1] rfl rfl ⟨by decide, by decide⟩ ⟨by decide, by decide⟩ rfl rfl (Nat.le_of_ble_eq_true rfl) d_W_step_4 rfl rfl ?_
  refine x_bipush (v := nI 66) 9 hB d_W_step_7 rfl (by decide) ?_
  refine x_icmp_ge 14 12 hB d_W_step_9 (by decide) rfl (fun _ => ?_) (fun hc => absurd (nI_le (by omega) (by omega)) hc)
  refine x_aload_n 15 hB d_W_step_14 rfl rfl ?_
  refine x_get 18 hB 0 fg_W_47_3 rfl rfl d_W_step_15 rfl ?_
  refine x_iconst (v := nI 2) 19 hB d_W_step_18 rfl (by decide) ?_
  refine x_callP (k' := 0) (n' := 0) (rest := []) (st' := [.int (ahF f p 2)]) 22 hB (x_pfV (av := [.int (nI 2)]) (q0 := 1) hB w_169 xHd_code w_263 w_167 w_168 rfl rfl nm_L_ahead rfl d_W_step_19) (c_L_ahead l E h0 a0 n p f 2 (by omega) hn hb) w_169 xHd_code w_2 [1, 2] rfl rfl ⟨by decide, by decide⟩ ⟨by decide, by decide⟩ rfl rfl (Nat.le_of_ble_eq_true rfl) d_W_step_19 rfl rfl ?_
  refine x_top (v' := .int (nI (ahN f p 2))) (congrArg Value.int (ah_e hb 2 (by omega) (by omega))) ?_
  have hl2 : ahN f p 2 < 4 := ahN_lt f p 2
  refine x_istore_n 23 hB d_W_step_22 rfl (by decide) (lv' := [(1, .int (nI (ahN f p 2))), (0, .ref hr)]) rfl ?_
  refine x_join 38 (fun _u : Unit => True) (fun _u : Unit => [(hr, .inr (3, [.ref h0, .int (bI true), .int (nI (sl)), .int (nI (bd)), .int (nI (wr)), .ref hs, .int (nI (gr)), .int (la), .long (last)])), (h0, .inr (0, [.ref a0, .int (nI (n)), .int (nI (p))])), (a0, .inl (E.2 0, 2640, .inl (f))), (hs, .inr (1, [.long (w)]))]) (fun _u : Unit => [(0, .ref hr), (1, .int (nI (ahN f p 2)))]) (fun _u : Unit => [.int (nI 1)]) (fun _u hJ38 => ?_) (fun J38 => ?_)
  · skip
    refine x_istore_n 39 hB d_W_step_38 rfl (by decide) (lv' := [(2, .int (nI 1)), (0, .ref hr), (1, .int (nI (ahN f p 2)))]) rfl ?_
    refine x_aload_n 40 hB d_W_step_39 rfl rfl ?_
    refine x_get 43 hB 0 fg_W_37_3 rfl rfl d_W_step_40 rfl ?_
    refine x_if_ne 60 46 hB d_W_step_43 (by decide) rfl (fun _ => ?_) (fun hc => absurd hc (by decide))
    refine x_aload_n 61 hB d_W_step_60 rfl rfl ?_
    refine x_callD (k' := 0) (n' := 0) (rest := []) (wr := []) (ws' := [(hr, .inr (3, [.ref h0, .int (bI true), .int (nI (sl)), .int (nI (bd)), .int (nI (wr)), .ref hs, .int (nI (gr)), .int (la), .long ((twF f (p + 2) w 64).2)])), (h0, .inr (0, [.ref a0, .int (nI (n)), .int (nI (p + 66))])), (a0, .inl (E.2 0, 2640, .inl (f))), (hs, .inr (1, [.long ((twF f (p + 2) w 64).1)]))]) (st' := []) 64 hB (x_pfV (av := []) (q0 := 0) hB w_270 xHd_code w_267 w_269 s_W_takeWord rfl rfl nm_W_takeWord rfl d_W_step_61) (c_W_takeWord l E hr h0 hs true sl bd wr gr la last a0 n p f w (by omega) hn hb) w_270 xHd_code w_5 [0, 1, 2, 3] [] rfl rfl rfl rfl (by decide) ⟨by decide, by decide⟩ ⟨by decide, by decide⟩ rfl rfl (Nat.le_of_ble_eq_true rfl) d_W_step_61 rfl rfl rfl ?_
    refine x_aload_n 65 hB d_W_step_64 rfl rfl ?_
    refine x_get 68 hB 0 fg_W_37_3 rfl rfl d_W_step_65 rfl ?_
    refine x_if_eq 79 71 hB d_W_step_68 (by decide) rfl (fun hc => absurd hc (by decide)) (fun _ => ?_)
    refine x_aload_n 72 hB d_W_step_71 rfl rfl ?_
    refine x_iload_n 73 hB d_W_step_72 rfl rfl ?_
    refine x_callD (k' := 0) (n' := 0) (rest := []) (wr := [(h0, .inr (0, [.ref a0, .int (nI (n)), .int (nI (p + 66))])), (a0, .inl (E.2 0, 2640, .inl (f))), (hs, .inr (1, [.long ((twF f (p + 2) w 64).1)]))]) (ws' := [(h0, .inr (0, [.ref a0, .int (nI (n)), .int (nI (p + 66))])), (a0, .inl (E.2 0, 2640, .inl (f))), (hs, .inr (1, [.long ((twF f (p + 2) w 64).1)])), (hr, .inr (3, [.ref h0, .int (bI (if lt4 (wlF la true) then true else false)), .int (nI (sl)), .int (nI (bd)), .int (nI (wr)), .ref hs, .int (nI (if lt4 (wlF la true) then gr else 0)), .int (wlF la true), .long ((twF f (p + 2) w 64).2)]))]) (st' := []) 76 hB (x_pfV (av := [.int (nI 1)]) (q0 := 0) hB w_287 xHd_code w_284 w_286 s_W_watch rfl rfl nm_W_watch rfl d_W_step_73) (c_W_watch_true l E hr h0 hs true sl bd wr gr la ((twF f (p + 2) w 64).2)) w_287 xHd_code w_5 [0] [1, 2, 3] rfl rfl rfl rfl (by decide) ⟨by decide, by decide⟩ ⟨by decide, by decide⟩ rfl rfl (Nat.le_of_ble_eq_true rfl) d_W_step_73 rfl rfl rfl ?_
    refine x_goto 83 hB d_W_step_76 (by decide) ?_
    refine x_iload_n 84 hB d_W_step_83 rfl rfl ?_
    refine x_if_ne 100 87 hB d_W_step_84 (by decide) rfl (fun _ => ?_) (fun hc => absurd hc (by decide))
    refine x_iload_n 101 hB d_W_step_100 rfl rfl ?_
    refine x_iconst (v := nI 2) 102 hB d_W_step_101 rfl (by decide) ?_
    refine x_icmp_ne 109 105 hB d_W_step_102 (by decide) rfl (fun h102 => ?_) (fun h102 => ?_)
    · skip
      have k102 : ¬ ahN f p 2 = 2 := fun h => h102 ((nI_eq (by omega) (by omega)).mpr h)
      refine x_iconst (v := nI 0) 110 hB d_W_step_109 rfl (by decide) ?_
      exact x_iret hB (w' := [(hr, .inr (3, [.ref h0, .int (bI (if lt4 (wlF la true) then true else false)), .int (nI (sl)), .int (nI (bd)), .int (nI (wr)), .ref hs, .int (nI (if lt4 (wlF la true) then gr else 0)), .int (wlF la true), .long ((twF f (p + 2) w 64).2)])), (h0, .inr (0, [.ref a0, .int (nI (n)), .int (nI (p + 66))])), (a0, .inl (E.2 0, 2640, .inl (f))), (hs, .inr (1, [.long ((twF f (p + 2) w 64).1)]))]) hA [3, 0, 1, 2] rfl rfl (⟨by rw [show (nI 0) = bI (decide (ahN f p 2 = 2)) from bF0 (decide_eq_false k102)], rfl⟩) (by decide) (by decide) d_W_step_110
    · skip
      have k102 : ahN f p 2 = 2 := (nI_eq (by omega) (by omega)).mp h102
      refine x_iconst (v := nI 1) 106 hB d_W_step_105 rfl (by decide) ?_
      refine x_goto 110 hB d_W_step_106 (by decide) ?_
      exact x_iret hB (w' := [(hr, .inr (3, [.ref h0, .int (bI (if lt4 (wlF la true) then true else false)), .int (nI (sl)), .int (nI (bd)), .int (nI (wr)), .ref hs, .int (nI (if lt4 (wlF la true) then gr else 0)), .int (wlF la true), .long ((twF f (p + 2) w 64).2)])), (h0, .inr (0, [.ref a0, .int (nI (n)), .int (nI (p + 66))])), (a0, .inl (E.2 0, 2640, .inl (f))), (hs, .inr (1, [.long ((twF f (p + 2) w 64).1)]))]) hA [3, 0, 1, 2] rfl rfl (⟨by rw [show (nI 1) = bI (decide (ahN f p 2 = 2)) from bT (decide_eq_true k102)], rfl⟩) (by decide) (by decide) d_W_step_110
  refine x_iload_n 24 hB d_W_step_23 rfl rfl ?_
  refine x_iconst (v := nI 1) 25 hB d_W_step_24 rfl (by decide) ?_
  refine x_icmp_eq 33 28 hB d_W_step_25 (by decide) rfl (fun h25 => ?_) (fun h25 => ?_)
  · skip
    have k25 : ahN f p 2 = 1 := (nI_eq (by omega) (by omega)).mp h25
    refine x_iconst (v := nI 1) 34 hB d_W_step_33 rfl (by decide) ?_
    refine x_goto 38 hB d_W_step_34 (by decide) ?_
    refine x_lv (lv' := [(0, .ref hr), (1, .int (nI (ahN f p 2)))]) [1, 0] rfl ?_
    exact J38 () trivial
  · skip
    have k25 : ¬ ahN f p 2 = 1 := fun h => h25 ((nI_eq (by omega) (by omega)).mpr h)
    refine x_iload_n 29 hB d_W_step_28 rfl rfl ?_
    refine x_iconst (v := nI 2) 30 hB d_W_step_29 rfl (by decide) ?_
    refine x_icmp_ne 37 33 hB d_W_step_30 (by decide) rfl (fun h30 => ?_) (fun h30 => ?_)
    · skip
      have k30 : ¬ ahN f p 2 = 2 := fun h => h30 ((nI_eq (by omega) (by omega)).mpr h)
      refine x_iconst (v := nI 0) 38 hB d_W_step_37 rfl (by decide) ?_
      refine x_top (v' := .int (nI 1)) (congrArg Value.int (absurd (of_decide_eq_true hG) (fun h => h.elim k25 k30))) ?_
      refine x_lv (lv' := [(0, .ref hr), (1, .int (nI (ahN f p 2)))]) [1, 0] rfl ?_
      exact J38 () trivial
    · skip
      have k30 : ahN f p 2 = 2 := (nI_eq (by omega) (by omega)).mp h30
      refine x_iconst (v := nI 1) 34 hB d_W_step_33 rfl (by decide) ?_
      refine x_goto 38 hB d_W_step_34 (by decide) ?_
      refine x_lv (lv' := [(0, .ref hr), (1, .int (nI (ahN f p 2)))]) [1, 0] rfl ?_
      exact J38 () trivial
abbrev rm_W_step_4 : Room := { frames := 4, cells := 0, slots := 0, locals := 90 }
set_option maxHeartbeats 4000000 in
set_option maxRecDepth 100000 in
theorem c_W_step_4 (l : Launch) (E : xE) (hr h0 hs : Nat) (sl bd wr gr : Nat) (la : Int32) (last : Int64) (a0 n p : Nat) (f : Nat → Int32) (w : Int64) (hn : n ≤ 2640) (hb : ∀ i, i < n → f i = 0 ∨ f i = 1) (hg : gr ≤ 8) (hp : p ≤ n) (hc : ¬ n - p < 66) (hG : gdF f p = false) : xC l E y_W_step (.code y_W_step prog_8_method_5_code 3 (some .int)) rm_W_step_4 [.ref hr] [(hr, .inr (3, [.ref h0, .int (bI true), .int (nI (sl)), .int (nI (bd)), .int (nI (wr)), .ref hs, .int (nI (gr)), .int (la), .long (last)])), (h0, .inr (0, [.ref a0, .int (nI (n)), .int (nI (p))])), (a0, .inl (E.2 0, 2640, .inl (f))), (hs, .inr (1, [.long (w)]))] (xRet (some (.int (-2))) [(hr, .inr (3, [.ref h0, .int (bI (if lt4 (wlF la false) then true else false)), .int (nI (sl)), .int (nI (bd + 1)), .int (nI (wr)), .ref hs, .int (nI (if lt4 (wlF la false) then gr else 0)), .int (wlF la false), .long ((twF f (p + 2) w 64).2)])), (h0, .inr (0, [.ref a0, .int (nI (n)), .int (nI (p + 66))])), (a0, .inl (E.2 0, 2640, .inl (f))), (hs, .inr (1, [.long ((twF f (p + 2) w 64).1)]))]) := by
  refine x_of' (own := "LineCoder$WordReceiver") (mn := "step") (lv := [(0, .ref hr)]) (plainFor_of_name (by decide)) rfl rfl (Nat.le_of_ble_eq_true rfl) rfl ?_
  intro p_ e_ s_ m_ ar_ be_ me_ c_ A_ hA hB
  refine x_aload_n 1 hB d_W_step_0 rfl rfl ?_
  refine x_get 4 hB 0 fg_W_47_3 rfl rfl d_W_step_1 rfl ?_
  refine x_callP (k' := 0) (n' := 0) (rest := []) (st' := [.int (nI (n - p))]) 7 hB (x_pfV (av := []) (q0 := 1) hB w_161 xHd_code w_262 w_159 w_160 rfl rfl nm_L_left rfl d_W_step_4) (c_L_left l E h0 a0 n p hp) w_161 xHd_code w_2 [1] rfl rfl ⟨by decide, by decide⟩ ⟨by decide, by decide⟩ rfl rfl (Nat.le_of_ble_eq_true rfl) d_W_step_4 rfl rfl ?_
  refine x_bipush (v := nI 66) 9 hB d_W_step_7 rfl (by decide) ?_
  refine x_icmp_ge 14 12 hB d_W_step_9 (by decide) rfl (fun _ => ?_) (fun hc => absurd (nI_le (by omega) (by omega)) hc)
  refine x_aload_n 15 hB d_W_step_14 rfl rfl ?_
  refine x_get 18 hB 0 fg_W_47_3 rfl rfl d_W_step_15 rfl ?_
  refine x_iconst (v := nI 2) 19 hB d_W_step_18 rfl (by decide) ?_
  refine x_callP (k' := 0) (n' := 0) (rest := []) (st' := [.int (ahF f p 2)]) 22 hB (x_pfV (av := [.int (nI 2)]) (q0 := 1) hB w_169 xHd_code w_263 w_167 w_168 rfl rfl nm_L_ahead rfl d_W_step_19) (c_L_ahead l E h0 a0 n p f 2 (by omega) hn hb) w_169 xHd_code w_2 [1, 2] rfl rfl ⟨by decide, by decide⟩ ⟨by decide, by decide⟩ rfl rfl (Nat.le_of_ble_eq_true rfl) d_W_step_19 rfl rfl ?_
  refine x_top (v' := .int (nI (ahN f p 2))) (congrArg Value.int (ah_e hb 2 (by omega) (by omega))) ?_
  have hl2 : ahN f p 2 < 4 := ahN_lt f p 2
  refine x_istore_n 23 hB d_W_step_22 rfl (by decide) (lv' := [(1, .int (nI (ahN f p 2))), (0, .ref hr)]) rfl ?_
  refine x_join 38 (fun _u : Unit => True) (fun _u : Unit => [(hr, .inr (3, [.ref h0, .int (bI true), .int (nI (sl)), .int (nI (bd)), .int (nI (wr)), .ref hs, .int (nI (gr)), .int (la), .long (last)])), (h0, .inr (0, [.ref a0, .int (nI (n)), .int (nI (p))])), (a0, .inl (E.2 0, 2640, .inl (f))), (hs, .inr (1, [.long (w)]))]) (fun _u : Unit => [(0, .ref hr), (1, .int (nI (ahN f p 2)))]) (fun _u : Unit => [.int (nI 0)]) (fun _u hJ38 => ?_) (fun J38 => ?_)
  · skip
    refine x_istore_n 39 hB d_W_step_38 rfl (by decide) (lv' := [(2, .int (nI 0)), (0, .ref hr), (1, .int (nI (ahN f p 2)))]) rfl ?_
    refine x_aload_n 40 hB d_W_step_39 rfl rfl ?_
    refine x_get 43 hB 0 fg_W_37_3 rfl rfl d_W_step_40 rfl ?_
    refine x_if_ne 60 46 hB d_W_step_43 (by decide) rfl (fun _ => ?_) (fun hc => absurd hc (by decide))
    refine x_aload_n 61 hB d_W_step_60 rfl rfl ?_
    refine x_callD (k' := 0) (n' := 0) (rest := []) (wr := []) (ws' := [(hr, .inr (3, [.ref h0, .int (bI true), .int (nI (sl)), .int (nI (bd)), .int (nI (wr)), .ref hs, .int (nI (gr)), .int (la), .long ((twF f (p + 2) w 64).2)])), (h0, .inr (0, [.ref a0, .int (nI (n)), .int (nI (p + 66))])), (a0, .inl (E.2 0, 2640, .inl (f))), (hs, .inr (1, [.long ((twF f (p + 2) w 64).1)]))]) (st' := []) 64 hB (x_pfV (av := []) (q0 := 0) hB w_270 xHd_code w_267 w_269 s_W_takeWord rfl rfl nm_W_takeWord rfl d_W_step_61) (c_W_takeWord l E hr h0 hs true sl bd wr gr la last a0 n p f w (by omega) hn hb) w_270 xHd_code w_5 [0, 1, 2, 3] [] rfl rfl rfl rfl (by decide) ⟨by decide, by decide⟩ ⟨by decide, by decide⟩ rfl rfl (Nat.le_of_ble_eq_true rfl) d_W_step_61 rfl rfl rfl ?_
    refine x_aload_n 65 hB d_W_step_64 rfl rfl ?_
    refine x_get 68 hB 0 fg_W_37_3 rfl rfl d_W_step_65 rfl ?_
    refine x_if_eq 79 71 hB d_W_step_68 (by decide) rfl (fun hc => absurd hc (by decide)) (fun _ => ?_)
    refine x_aload_n 72 hB d_W_step_71 rfl rfl ?_
    refine x_iload_n 73 hB d_W_step_72 rfl rfl ?_
    refine x_callD (k' := 0) (n' := 0) (rest := []) (wr := [(h0, .inr (0, [.ref a0, .int (nI (n)), .int (nI (p + 66))])), (a0, .inl (E.2 0, 2640, .inl (f))), (hs, .inr (1, [.long ((twF f (p + 2) w 64).1)]))]) (ws' := [(h0, .inr (0, [.ref a0, .int (nI (n)), .int (nI (p + 66))])), (a0, .inl (E.2 0, 2640, .inl (f))), (hs, .inr (1, [.long ((twF f (p + 2) w 64).1)])), (hr, .inr (3, [.ref h0, .int (bI (if lt4 (wlF la false) then true else false)), .int (nI (sl)), .int (nI (bd)), .int (nI (wr)), .ref hs, .int (nI (if lt4 (wlF la false) then gr else 0)), .int (wlF la false), .long ((twF f (p + 2) w 64).2)]))]) (st' := []) 76 hB (x_pfV (av := [.int (nI 0)]) (q0 := 0) hB w_287 xHd_code w_284 w_286 s_W_watch rfl rfl nm_W_watch rfl d_W_step_73) (c_W_watch_false l E hr h0 hs true sl bd wr gr la ((twF f (p + 2) w 64).2)) w_287 xHd_code w_5 [0] [1, 2, 3] rfl rfl rfl rfl (by decide) ⟨by decide, by decide⟩ ⟨by decide, by decide⟩ rfl rfl (Nat.le_of_ble_eq_true rfl) d_W_step_73 rfl rfl rfl ?_
    refine x_goto 83 hB d_W_step_76 (by decide) ?_
    refine x_iload_n 84 hB d_W_step_83 rfl rfl ?_
    refine x_if_ne 100 87 hB d_W_step_84 (by decide) rfl (fun hc => absurd (by decide) hc) (fun _ => ?_)
    refine x_aload_n 88 hB d_W_step_87 rfl rfl ?_
    refine x_dup 89 hB d_W_step_88 rfl rfl ?_
    refine x_get 92 hB 3 fg_W_75_3 rfl rfl d_W_step_89 rfl ?_
    refine x_iconst (v := nI 1) 93 hB d_W_step_92 rfl (by decide) ?_
    refine x_iadd 94 hB d_W_step_93 rfl ?_
    refine x_top (v' := .int (nI (bd + 1))) (congrArg Value.int (nI_add bd 1)) ?_
    refine x_put 97 hB 3 (ws' := [(h0, .inr (0, [.ref a0, .int (nI (n)), .int (nI (p + 66))])), (a0, .inl (E.2 0, 2640, .inl (f))), (hs, .inr (1, [.long ((twF f (p + 2) w 64).1)])), (hr, .inr (3, [.ref h0, .int (bI (if lt4 (wlF la false) then true else false)), .int (nI (sl)), .int (nI (bd + 1)), .int (nI (wr)), .ref hs, .int (nI (if lt4 (wlF la false) then gr else 0)), .int (wlF la false), .long ((twF f (p + 2) w 64).2)]))]) fp_W_75_3 rfl (rfl) (rfl) (Nat.le_of_ble_eq_true rfl) rfl d_W_step_94 rfl ?_
    refine x_bipush (v := (-2 : Int32)) 99 hB d_W_step_97 rfl (by decide) ?_
    exact x_iret hB (w' := [(hr, .inr (3, [.ref h0, .int (bI (if lt4 (wlF la false) then true else false)), .int (nI (sl)), .int (nI (bd + 1)), .int (nI (wr)), .ref hs, .int (nI (if lt4 (wlF la false) then gr else 0)), .int (wlF la false), .long ((twF f (p + 2) w 64).2)])), (h0, .inr (0, [.ref a0, .int (nI (n)), .int (nI (p + 66))])), (a0, .inl (E.2 0, 2640, .inl (f))), (hs, .inr (1, [.long ((twF f (p + 2) w 64).1)]))]) hA [3, 0, 1, 2] rfl rfl (xRet_i) (by decide) (by decide) d_W_step_99
  refine x_iload_n 24 hB d_W_step_23 rfl rfl ?_
  refine x_iconst (v := nI 1) 25 hB d_W_step_24 rfl (by decide) ?_
  refine x_icmp_eq 33 28 hB d_W_step_25 (by decide) rfl (fun h25 => ?_) (fun h25 => ?_)
  · skip
    have k25 : ahN f p 2 = 1 := (nI_eq (by omega) (by omega)).mp h25
    refine x_iconst (v := nI 1) 34 hB d_W_step_33 rfl (by decide) ?_
    refine x_top (v' := .int (nI 0)) (congrArg Value.int (absurd (decide_eq_true (Or.inl k25)) (by rw [show decide _ = gdF f p from rfl, hG]; decide))) ?_
    refine x_goto 38 hB d_W_step_34 (by decide) ?_
    refine x_lv (lv' := [(0, .ref hr), (1, .int (nI (ahN f p 2)))]) [1, 0] rfl ?_
    exact J38 () trivial
  · skip
    have k25 : ¬ ahN f p 2 = 1 := fun h => h25 ((nI_eq (by omega) (by omega)).mpr h)
    refine x_iload_n 29 hB d_W_step_28 rfl rfl ?_
    refine x_iconst (v := nI 2) 30 hB d_W_step_29 rfl (by decide) ?_
    refine x_icmp_ne 37 33 hB d_W_step_30 (by decide) rfl (fun h30 => ?_) (fun h30 => ?_)
    · skip
      have k30 : ¬ ahN f p 2 = 2 := fun h => h30 ((nI_eq (by omega) (by omega)).mpr h)
      refine x_iconst (v := nI 0) 38 hB d_W_step_37 rfl (by decide) ?_
      refine x_lv (lv' := [(0, .ref hr), (1, .int (nI (ahN f p 2)))]) [1, 0] rfl ?_
      exact J38 () trivial
    · skip
      have k30 : ahN f p 2 = 2 := (nI_eq (by omega) (by omega)).mp h30
      refine x_iconst (v := nI 1) 34 hB d_W_step_33 rfl (by decide) ?_
      refine x_top (v' := .int (nI 0)) (congrArg Value.int (absurd (decide_eq_true (Or.inr k30)) (by rw [show decide _ = gdF f p from rfl, hG]; decide))) ?_
      refine x_goto 38 hB d_W_step_34 (by decide) ?_
      refine x_lv (lv' := [(0, .ref hr), (1, .int (nI (ahN f p 2)))]) [1, 0] rfl ?_
      exact J38 () trivial
theorem ifb (c : Prop) [d : Decidable c] : (if c then true else false) = decide c := by cases d <;> rfl
theorem ifbb (b : Bool) : (if b then true else false) = b := by cases b <;> rfl
set_option maxHeartbeats 4000000 in
theorem c_W_step (l : Launch) (E : xE) (hr h0 hs : Nat) (fo : Bool) (sl bd wr gr : Nat) (la : Int32) (last : Int64) (a0 n p : Nat) (f : Nat → Int32) (w : Int64) (hn : n ≤ 2640) (hb : ∀ i, i < n → f i = 0 ∨ f i = 1) (hg : gr ≤ 8) (hp : p ≤ n) : xC l E y_W_step (.code y_W_step prog_8_method_5_code 3 (some .int)) rm_W_step_0 [.ref hr] [(hr, .inr (3, [.ref h0, .int (bI fo), .int (nI (sl)), .int (nI (bd)), .int (nI (wr)), .ref hs, .int (nI (gr)), .int (la), .long (last)])), (h0, .inr (0, [.ref a0, .int (nI (n)), .int (nI (p))])), (a0, .inl (E.2 0, 2640, .inl (f))), (hs, .inr (1, [.long (w)]))] (xRet (some (.int (wcR (wcC f n p fo) (ahN f p 2)))) [(hr, .inr (3, [.ref h0, .int (bI (wcO (wcC f n p fo) fo gr la)), .int (nI (wcS (wcC f n p fo) sl)), .int (nI (wcB (wcC f n p fo) bd)), .int (nI (wr)), .ref hs, .int (nI (wcG (wcC f n p fo) gr la)), .int (wcA (wcC f n p fo) gr la), .long (wcT (wcC f n p fo) f p w last)])), (h0, .inr (0, [.ref a0, .int (nI (n)), .int (nI (wcL (wcC f n p fo) p))])), (a0, .inl (E.2 0, 2640, .inl (f))), (hs, .inr (1, [.long (wcP (wcC f n p fo) f p w)]))]) := by
  by_cases hc : n - p < 66
  · have e : wcC f n p fo = 0 := by simp [wcC, hc]
    rw [e]
    exact c_W_step_0 l E hr h0 hs fo sl bd wr gr la last a0 n p f w hn hb hg hp hc
  · cases fo with
    | false =>
      cases hG : gdF f p with
      | false =>
        have e : wcC f n p false = 1 := by simp [wcC, hc, hG]
        rw [e]
        exact c_W_step_1 l E hr h0 hs sl bd wr gr la last a0 n p f w hn hb hg hp hc hG
      | true =>
        have e : wcC f n p false = 2 := by simp [wcC, hc, hG]
        rw [e]
        have h := c_W_step_2 l E hr h0 hs sl bd wr gr la last a0 n p f w hn hb hg hp hc hG
        rw [ifb] at h
        exact h
    | true =>
      cases hG : gdF f p with
      | false =>
        have e : wcC f n p true = 4 := by simp [wcC, hc, hG]
        rw [e]
        have h := c_W_step_4 l E hr h0 hs sl bd wr gr la last a0 n p f w hn hb hg hp hc hG
        rw [ifbb] at h
        exact h
      | true =>
        have e : wcC f n p true = 3 := by simp [wcC, hc, hG]
        rw [e]
        have h := c_W_step_3 l E hr h0 hs sl bd wr gr la last a0 n p f w hn hb hg hp hc hG
        rw [ifbb] at h
        exact h
