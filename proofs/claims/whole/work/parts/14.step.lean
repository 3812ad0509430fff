set_option maxHeartbeats 4000000 in
theorem c_T_takeTen (l : Launch) (E : xE) (hr h0 : Nat) (fo plus first : Bool) (sl bd wr mk rw : Nat) (a0 n p : Nat) (f : Nat → Int32) (hp : p + 10 ≤ n) (hn : n ≤ 2640) (hb : ∀ i, i < n → f i = 0 ∨ f i = 1) (hm : mk < 4) (hw : rw < 4) : xC l E y_T_takeTen (.code y_T_takeTen prog_6_method_7_code 6 (some .int)) rm_T_takeTen_A [.ref hr] [(hr, .inr (2, [.ref h0, .int (bI fo), .int (nI (sl)), .int (nI (bd)), .int (nI (wr)), .int (bI plus), .int (bI first), .int (nI (mk)), .int (nI (rw))])), (h0, .inr (0, [.ref a0, .int (nI (n)), .int (nI (p))])), (a0, .inl (E.2 0, 2640, .inl (f)))] (xRet (some (.int (tkR (ahN f p 10) plus first))) [(hr, .inr (2, [.ref h0, .int (bI (tkO fo mk (tkK (ahN f p 10) plus first))), .int (nI (sl)), .int (nI (bd + (if (tkK (ahN f p 10) plus first) = 1 then 1 else 0))), .int (nI (wr + (if (tkK (ahN f p 10) plus first) = 2 then 1 else 0))), .int (bI (tkP (ahN f p 10) plus first)), .int (nI 0), .int (nI (tkM mk rw (tkK (ahN f p 10) plus first))), .int (nI (tkW rw (tkK (ahN f p 10) plus first)))])), (h0, .inr (0, [.ref a0, .int (nI (n)), .int (nI (p + 10))])), (a0, .inl (E.2 0, 2640, .inl (f)))]) := by
  cases h1 : decF (ahN f p 10) plus with
  | some y =>
    have h := c_T_takeTen_A l E hr h0 fo plus first sl bd wr mk rw a0 n p f hp hn hb hm hw y (decF_lt h1) h1
    have e1 : tkK (ahN f p 10) plus first = 0 := by rw [tkK, h1]
    have e2 : tkR (ahN f p 10) plus first = nI y := by rw [tkR, e1, tkY, h1]; rfl
    have e3 : tkP (ahN f p 10) plus first = pbT (ahN f p 10) plus := by rw [tkP, h1]
    rw [e2, e3, e1]
    exact h
  | none =>
    cases h2 : decF (ahN f p 10) (!plus) with
    | none =>
      have h := c_T_takeTen_B l E hr h0 fo plus first sl bd wr mk rw a0 n p f hp hn hb hm hw h1 h2
      have e1 : tkK (ahN f p 10) plus first = 1 := by rw [tkK, h1, h2]
      have e2 : tkR (ahN f p 10) plus first = (-2 : Int32) := by rw [tkR, e1]; rfl
      have e3 : tkP (ahN f p 10) plus first = pbT (ahN f p 10) plus := by rw [tkP, h1, h2]
      rw [e2, e3, e1]
      exact h
    | some y =>
      cases first with
      | true =>
        have h := c_T_takeTen_C l E hr h0 fo plus sl bd wr mk rw a0 n p f hp hn hb hm hw y (decF_lt h2) h1 h2
        have e1 : tkK (ahN f p 10) plus true = 0 := by rw [tkK, h1, h2]; rfl
        have e2 : tkR (ahN f p 10) plus true = nI y := by rw [tkR, e1, tkY, h1, h2]; rfl
        have e3 : tkP (ahN f p 10) plus true = pbT (ahN f p 10) (!plus) := by rw [tkP, h1, h2]; rfl
        rw [e2, e3, e1]
        exact h
      | false =>
        have h := c_T_takeTen_D l E hr h0 fo plus sl bd wr mk rw a0 n p f hp hn hb hm hw y (decF_lt h2) h1 h2
        have e1 : tkK (ahN f p 10) plus false = 2 := by rw [tkK, h1, h2]; rfl
        have e2 : tkR (ahN f p 10) plus false = nI (y + 512) := by rw [tkR, e1, tkY, h1, h2]; rfl
        have e3 : tkP (ahN f p 10) plus false = pbT (ahN f p 10) plus := by rw [tkP, h1, h2]; rfl
        rw [e2, e3, e1]
        exact h
abbrev rm_T_step_0 : Room := { frames := 5, cells := 0, slots := 0, locals := 119 }
set_option maxHeartbeats 4000000 in
set_option maxRecDepth 100000 in
theorem c_T_step_0 (l : Launch) (E : xE) (hr h0 : Nat) (plus first : Bool) (sl bd wr mk rw : Nat) (a0 n p : Nat) (f : Nat → Int32) (hn : n ≤ 2640) (hb : ∀ i, i < n → f i = 0 ∨ f i = 1) (hm : mk < 4) (hw : rw < 4) (hp : p ≤ n) (hc : n - p < 7) : xC l E y_T_step (.code y_T_step prog_6_method_5_code 1 (some .int)) rm_T_step_0 [.ref hr] [(hr, .inr (2, [.ref h0, .int (bI false), .int (nI (sl)), .int (nI (bd)), .int (nI (wr)), .int (bI plus), .int (bI first), .int (nI (mk)), .int (nI (rw))])), (h0, .inr (0, [.ref a0, .int (nI (n)), .int (nI (p))])), (a0, .inl (E.2 0, 2640, .inl (f)))] (xRet (some (.int (-1))) [(hr, .inr (2, [.ref h0, .int (bI false), .int (nI (sl)), .int (nI (bd)), .int (nI (wr)), .int (bI plus), .int (bI first), .int (nI (mk)), .int (nI (rw))])), (h0, .inr (0, [.ref a0, .int (nI (n)), .int (nI (p))])), (a0, .inl (E.2 0, 2640, .inl (f)))]) := by
  refine x_of' (own := "LineCoder$TenReceiver") (mn := "step") (lv := [(0, .ref hr)]) (plainFor_of_name (by decide)) rfl rfl (Nat.le_of_ble_eq_true rfl) rfl ?_
  intro p_ e_ s_ m_ ar_ be_ me_ c_ A_ hA hB
  refine x_aload_n 1 hB d_T_step_0 rfl rfl ?_
  refine x_get 4 hB 0 fg_T_29_2 rfl rfl d_T_step_1 rfl ?_
  refine x_if_ne 43 7 hB d_T_step_4 (by decide) rfl (fun hc => absurd (rfl) hc) (fun _ => ?_)
  refine x_aload_n 8 hB d_T_step_7 rfl rfl ?_
  refine x_get 11 hB 0 fg_T_32_2 rfl rfl d_T_step_8 rfl ?_
  refine x_callP (k' := 0) (n' := 0) (rest := []) (st' := [.int (nI (n - p))]) 14 hB (x_pfV (av := []) (q0 := 1) hB w_161 xHd_code w_158 w_159 w_160 rfl rfl nm_L_left rfl d_T_step_11) (c_L_left l E h0 a0 n p hp) w_161 xHd_code w_2 [1] rfl rfl ⟨by decide, by decide⟩ ⟨by decide, by decide⟩ rfl rfl (Nat.le_of_ble_eq_true rfl) d_T_step_11 rfl rfl ?_
  refine x_bipush (v := nI 7) 16 hB d_T_step_14 rfl (by decide) ?_
  refine x_icmp_ge 21 19 hB d_T_step_16 (by decide) rfl (fun hc => absurd hc (nI_ge (by omega) (by omega))) (fun _ => ?_)
  refine x_iconst (v := (-1 : Int32)) 20 hB d_T_step_19 rfl (by decide) ?_
  exact x_iret hB (w' := [(hr, .inr (2, [.ref h0, .int (bI false), .int (nI (sl)), .int (nI (bd)), .int (nI (wr)), .int (bI plus), .int (bI first), .int (nI (mk)), .int (nI (rw))])), (h0, .inr (0, [.ref a0, .int (nI (n)), .int (nI (p))])), (a0, .inl (E.2 0, 2640, .inl (f)))]) hA [0, 1, 2] rfl rfl (xRet_i) (by decide) (by decide) d_T_step_20
abbrev rm_T_step_1 : Room := { frames := 5, cells := 0, slots := 0, locals := 119 }
set_option maxHeartbeats 4000000 in
set_option maxRecDepth 100000 in
theorem c_T_step_1 (l : Launch) (E : xE) (hr h0 : Nat) (plus first : Bool) (sl bd wr mk rw : Nat) (a0 n p : Nat) (f : Nat → Int32) (hn : n ≤ 2640) (hb : ∀ i, i < n → f i = 0 ∨ f i = 1) (hm : mk < 4) (hw : rw < 4) (hp : p ≤ n) (hc : ¬ n - p < 7) (hM : atM f p = false) : xC l E y_T_step (.code y_T_step prog_6_method_5_code 1 (some .int)) rm_T_step_1 [.ref hr] [(hr, .inr (2, [.ref h0, .int (bI false), .int (nI (sl)), .int (nI (bd)), .int (nI (wr)), .int (bI plus), .int (bI first), .int (nI (mk)), .int (nI (rw))])), (h0, .inr (0, [.ref a0, .int (nI (n)), .int (nI (p))])), (a0, .inl (E.2 0, 2640, .inl (f)))] (xRet (some (.int (-3))) [(hr, .inr (2, [.ref h0, .int (bI false), .int (nI (sl + 1)), .int (nI (bd)), .int (nI (wr)), .int (bI plus), .int (bI first), .int (nI (mk)), .int (nI (rw))])), (h0, .inr (0, [.ref a0, .int (nI (n)), .int (nI (p + 1))])), (a0, .inl (E.2 0, 2640, .inl (f)))]) := by
  refine x_of' (own := "LineCoder$TenReceiver") (mn := "step") (lv := [(0, .ref hr)]) (plainFor_of_name (by decide)) rfl rfl (Nat.le_of_ble_eq_true rfl) rfl ?_
  intro p_ e_ s_ m_ ar_ be_ me_ c_ A_ hA hB
  refine x_aload_n 1 hB d_T_step_0 rfl rfl ?_
  refine x_get 4 hB 0 fg_T_29_2 rfl rfl d_T_step_1 rfl ?_
  refine x_if_ne 43 7 hB d_T_step_4 (by decide) rfl (fun hc => absurd (rfl) hc) (fun _ => ?_)
  refine x_aload_n 8 hB d_T_step_7 rfl rfl ?_
  refine x_get 11 hB 0 fg_T_32_2 rfl rfl d_T_step_8 rfl ?_
  refine x_callP (k' := 0) (n' := 0) (rest := []) (st' := [.int (nI (n - p))]) 14 hB (x_pfV (av := []) (q0 := 1) hB w_161 xHd_code w_158 w_159 w_160 rfl rfl nm_L_left rfl d_T_step_11) (c_L_left l E h0 a0 n p hp) w_161 xHd_code w_2 [1] rfl rfl ⟨by decide, by decide⟩ ⟨by decide, by decide⟩ rfl rfl (Nat.le_of_ble_eq_true rfl) d_T_step_11 rfl rfl ?_
  refine x_bipush (v := nI 7) 16 hB d_T_step_14 rfl (by decide) ?_
  refine x_icmp_ge 21 19 hB d_T_step_16 (by decide) rfl (fun _ => ?_) (fun hc => absurd (nI_le (by omega) (by omega)) hc)
  refine x_aload_n 22 hB d_T_step_21 rfl rfl ?_
  refine x_callP (k' := 0) (n' := 0) (rest := []) (st' := [.int (bI (atM f p))]) 25 hB (x_pfV (av := []) (q0 := 0) hB w_165 xHd_code w_162 w_164 s_T_isAtMark rfl rfl nm_T_isAtMark rfl d_T_step_22) (c_T_isAtMark l E hr h0 false plus first sl bd wr mk rw a0 n p f (by omega) hn hb) w_165 xHd_code w_4 [0, 1, 2] rfl rfl ⟨by decide, by decide⟩ ⟨by decide, by decide⟩ rfl rfl (Nat.le_of_ble_eq_true rfl) d_T_step_22 rfl rfl ?_
  refine x_top (v' := .int (nI 0)) (congrArg Value.int (by rw [hM]; rfl)) ?_
  refine x_if_ne 33 28 hB d_T_step_25 (by decide) rfl (fun hc => absurd (by decide) hc) (fun _ => ?_)
  refine x_aload_n 29 hB d_T_step_28 rfl rfl ?_
  refine x_callD (k' := 0) (n' := 0) (rest := []) (wr := [(a0, .inl (E.2 0, 2640, .inl (f)))]) (ws' := [(a0, .inl (E.2 0, 2640, .inl (f))), (hr, .inr (2, [.ref h0, .int (bI false), .int (nI (sl + 1)), .int (nI (bd)), .int (nI (wr)), .int (bI plus), .int (bI first), .int (nI (mk)), .int (nI (rw))])), (h0, .inr (0, [.ref a0, .int (nI (n)), .int (nI (p + 1))]))]) (st' := [.int (-3)]) 32 hB (x_pfU (av := []) (q0 := 0) (x := ⟨"LineCoder$TenReceiver", "slip", "()I"⟩) (owner := "LineCoder$Receiver") hB w_183 xHd_code w_178 w_179 (va_Decl.of (hB.qt _ w_182) (hB.qt _ w_183)) w_182 w_181 rfl rfl (by decide) ⟨⟨by decide +kernel, by decide +kernel⟩, by decide +kernel⟩ rfl d_T_step_29) (c_R_slip_T l E hr h0 false plus first sl bd wr mk rw a0 n p (by omega) hn) w_183 xHd_code w_3 [0, 1] [2] rfl rfl rfl rfl (by decide) ⟨by decide, by decide⟩ ⟨by decide, by decide⟩ rfl rfl (Nat.le_of_ble_eq_true rfl) d_T_step_29 rfl rfl rfl ?_
  exact x_iret hB (w' := [(hr, .inr (2, [.ref h0, .int (bI false), .int (nI (sl + 1)), .int (nI (bd)), .int (nI (wr)), .int (bI plus), .int (bI first), .int (nI (mk)), .int (nI (rw))])), (h0, .inr (0, [.ref a0, .int (nI (n)), .int (nI (p + 1))])), (a0, .inl (E.2 0, 2640, .inl (f)))]) hA [1, 2, 0] rfl rfl (xRet_i) (by decide) (by decide) d_T_step_32
abbrev rm_T_step_2 : Room := { frames := 5, cells := 0, slots := 0, locals := 119 }
set_option maxHeartbeats 4000000 in
set_option maxRecDepth 100000 in
theorem c_T_step_2 (l : Launch) (E : xE) (hr h0 : Nat) (plus first : Bool) (sl bd wr mk rw : Nat) (a0 n p : Nat) (f : Nat → Int32) (hn : n ≤ 2640) (hb : ∀ i, i < n → f i = 0 ∨ f i = 1) (hm : mk < 4) (hw : rw < 4) (hp : p ≤ n) (hc : ¬ n - p < 7) (hc2 : n - p < 10) (hM : atM f p = true) : xC l E y_T_step (.code y_T_step prog_6_method_5_code 1 (some .int)) rm_T_step_2 [.ref hr] [(hr, .inr (2, [.ref h0, .int (bI false), .int (nI (sl)), .int (nI (bd)), .int (nI (wr)), .int (bI plus), .int (bI first), .int (nI (mk)), .int (nI (rw))])), (h0, .inr (0, [.ref a0, .int (nI (n)), .int (nI (p))])), (a0, .inl (E.2 0, 2640, .inl (f)))] (xRet (some (.int (-1))) [(hr, .inr (2, [.ref h0, .int (nI 1), .int (nI (sl)), .int (nI (bd)), .int (nI (wr)), .int (bI plus), .int (nI 1), .int (nI (mk)), .int (nI (rw))])), (h0, .inr (0, [.ref a0, .int (nI (n)), .int (nI (p))])), (a0, .inl (E.2 0, 2640, .inl (f)))]) := by
  refine x_of' (own := "LineCoder$TenReceiver") (mn := "step") (lv := [(0, .ref hr)]) (plainFor_of_name (by decide)) rfl rfl (Nat.le_of_ble_eq_true rfl) rfl ?_
  intro p_ e_ s_ m_ ar_ be_ me_ c_ A_ hA hB
  refine x_aload_n 1 hB d_T_step_0 rfl rfl ?_
  refine x_get 4 hB 0 fg_T_29_2 rfl rfl d_T_step_1 rfl ?_
  refine x_if_ne 43 7 hB d_T_step_4 (by decide) rfl (fun hc => absurd (rfl) hc) (fun _ => ?_)
  refine x_aload_n 8 hB d_T_step_7 rfl rfl ?_
  refine x_get 11 hB 0 fg_T_32_2 rfl rfl d_T_step_8 rfl ?_
  refine x_callP (k' := 0) (n' := 0) (rest := []) (st' := [.int (nI (n - p))]) 14 hB (x_pfV (av := []) (q0 := 1) hB w_161 xHd_code w_158 w_159 w_160 rfl rfl nm_L_left rfl d_T_step_11) (c_L_left l E h0 a0 n p hp) w_161 xHd_code w_2 [1] rfl rfl ⟨by decide, by decide⟩ ⟨by decide, by decide⟩ rfl rfl (Nat.le_of_ble_eq_true rfl) d_T_step_11 rfl rfl ?_
  refine x_bipush (v := nI 7) 16 hB d_T_step_14 rfl (by decide) ?_
  refine x_icmp_ge 21 19 hB d_T_step_16 (by decide) rfl (fun _ => ?_) (fun hc => absurd (nI_le (by omega) (by omega)) hc)
  refine x_aload_n 22 hB d_T_step_21 rfl rfl ?_
  refine x_callP (k' := 0) (n' := 0) (rest := []) (st' := [.int (bI (atM f p))]) 25 hB (x_pfV (av := []) (q0 := 0) hB w_165 xHd_code w_162 w_164 s_T_isAtMark rfl rfl nm_T_isAtMark rfl d_T_step_22) (c_T_isAtMark l E hr h0 false plus first sl bd wr mk rw a0 n p f (by omega) hn hb) w_165 xHd_code w_4 [0, 1, 2] rfl rfl ⟨by decide, by decide⟩ ⟨by decide, by decide⟩ rfl rfl (Nat.le_of_ble_eq_true rfl) d_T_step_22 rfl rfl ?_
  refine x_top (v' := .int (nI 1)) (congrArg Value.int (by rw [hM]; rfl)) ?_
  refine x_if_ne 33 28 hB d_T_step_25 (by decide) rfl (fun _ => ?_) (fun hc => absurd hc (by decide))
  refine x_aload_n 34 hB d_T_step_33 rfl rfl ?_
  refine x_iconst (v := nI 1) 35 hB d_T_step_34 rfl (by decide) ?_
  refine x_put 38 hB 0 (ws' := [(hr, .inr (2, [.ref h0, .int (nI 1), .int (nI (sl)), .int (nI (bd)), .int (nI (wr)), .int (bI plus), .int (bI first), .int (nI (mk)), .int (nI (rw))])), (h0, .inr (0, [.ref a0, .int (nI (n)), .int (nI (p))])), (a0, .inl (E.2 0, 2640, .inl (f)))]) fp_T_29_2 rfl (rfl) (rfl) (Nat.le_of_ble_eq_true rfl) rfl d_T_step_35 rfl ?_
  refine x_aload_n 39 hB d_T_step_38 rfl rfl ?_
  refine x_iconst (v := nI 1) 40 hB d_T_step_39 rfl (by decide) ?_
  refine x_put 43 hB 0 (ws' := [(hr, .inr (2, [.ref h0, .int (nI 1), .int (nI (sl)), .int (nI (bd)), .int (nI (wr)), .int (bI plus), .int (nI 1), .int (nI (mk)), .int (nI (rw))])), (h0, .inr (0, [.ref a0, .int (nI (n)), .int (nI (p))])), (a0, .inl (E.2 0, 2640, .inl (f)))]) fp_T_15_2 rfl (rfl) (rfl) (Nat.le_of_ble_eq_true rfl) rfl d_T_step_40 rfl ?_
  refine x_aload_n 44 hB d_T_step_43 rfl rfl ?_
  refine x_get 47 hB 0 fg_T_32_2 rfl rfl d_T_step_44 rfl ?_
  refine x_callP (k' := 0) (n' := 0) (rest := []) (st' := [.int (nI (n - p))]) 50 hB (x_pfV (av := []) (q0 := 1) hB w_161 xHd_code w_158 w_159 w_160 rfl rfl nm_L_left rfl d_T_step_47) (c_L_left l E h0 a0 n p hp) w_161 xHd_code w_2 [1] rfl rfl ⟨by decide, by decide⟩ ⟨by decide, by decide⟩ rfl rfl (Nat.le_of_ble_eq_true rfl) d_T_step_47 rfl rfl ?_
  refine x_bipush (v := nI 10) 52 hB d_T_step_50 rfl (by decide) ?_
  refine x_icmp_ge 59 55 hB d_T_step_52 (by decide) rfl (fun hc => absurd hc (nI_ge (by omega) (by omega))) (fun _ => ?_)
  refine x_iconst (v := (-1 : Int32)) 56 hB d_T_step_55 rfl (by decide) ?_
  refine x_goto 63 hB d_T_step_56 (by decide) ?_
  exact x_iret hB (w' := [(hr, .inr (2, [.ref h0, .int (nI 1), .int (nI (sl)), .int (nI (bd)), .int (nI (wr)), .int (bI plus), .int (nI 1), .int (nI (mk)), .int (nI (rw))])), (h0, .inr (0, [.ref a0, .int (nI (n)), .int (nI (p))])), (a0, .inl (E.2 0, 2640, .inl (f)))]) hA [0, 1, 2] rfl rfl (xRet_i) (by decide) (by decide) d_T_step_63
abbrev rm_T_step_3 : Room := { frames := 5, cells := 0, slots := 0, locals := 119 }
set_option maxHeartbeats 4000000 in
set_option maxRecDepth 100000 in
theorem c_T_step_3 (l : Launch) (E : xE) (hr h0 : Nat) (plus first : Bool) (sl bd wr mk rw : Nat) (a0 n p : Nat) (f : Nat → Int32) (hn : n ≤ 2640) (hb : ∀ i, i < n → f i = 0 ∨ f i = 1) (hm : mk < 4) (hw : rw < 4) (hp : p ≤ n) (hc2 : ¬ n - p < 10) (hM : atM f p = true) : xC l E y_T_step (.code y_T_step prog_6_method_5_code 1 (some .int)) rm_T_step_3 [.ref hr] [(hr, .inr (2, [.ref h0, .int (bI false), .int (nI (sl)), .int (nI (bd)), .int (nI (wr)), .int (bI plus), .int (bI first), .int (nI (mk)), .int (nI (rw))])), (h0, .inr (0, [.ref a0, .int (nI (n)), .int (nI (p))])), (a0, .inl (E.2 0, 2640, .inl (f)))] (xRet (some (.int (tkR (ahN f p 10) plus true))) [(hr, .inr (2, [.ref h0, .int (bI (tkO true mk (tkK (ahN f p 10) plus true))), .int (nI (sl)), .int (nI (bd + (if (tkK (ahN f p 10) plus true) = 1 then 1 else 0))), .int (nI (wr + (if (tkK (ahN f p 10) plus true) = 2 then 1 else 0))), .int (bI (tkP (ahN f p 10) plus true)), .int (nI 0), .int (nI (tkM mk rw (tkK (ahN f p 10) plus true))), .int (nI (tkW rw (tkK (ahN f p 10) plus true)))])), (h0, .inr (0, [.ref a0, .int (nI (n)), .int (nI (p + 10))])), (a0, .inl (E.2 0, 2640, .inl (f)))]) := by
  refine x_of' (own := "LineCoder$TenReceiver") (mn := "step") (lv := [(0, .ref hr)]) (plainFor_of_name (by decide)) rfl rfl (Nat.le_of_ble_eq_true rfl) rfl ?_
  intro p_ e_ s_ m_ ar_ be_ me_ c_ A_ hA hB
  refine x_aload_n 1 hB d_T_step_0 rfl rfl ?_
  refine x_get 4 hB 0 fg_T_29_2 rfl rfl d_T_step_1 rfl ?_
  refine x_if_ne 43 7 hB d_T_step_4 (by decide) rfl (fun hc => absurd (rfl) hc) (fun _ => ?_)
  refine x_aload_n 8 hB d_T_step_7 rfl rfl ?_
  refine x_get 11 hB 0 fg_T_32_2 rfl rfl d_T_step_8 rfl ?_
  refine x_callP (k' := 0) (n' := 0) (rest := []) (st' := [.int (nI (n - p))]) 14 hB (x_pfV (av := []) (q0 := 1) hB w_161 xHd_code w_158 w_159 w_160 rfl rfl nm_L_left rfl d_T_step_11) (c_L_left l E h0 a0 n p hp) w_161 xHd_code w_2 [1] rfl rfl ⟨by decide, by decide⟩ ⟨by decide, by decide⟩ rfl rfl (Nat.le_of_ble_eq_true rfl) d_T_step_11 rfl rfl ?_
  refine x_bipush (v := nI 7) 16 hB d_T_step_14 rfl (by decide) ?_
  refine x_icmp_ge 21 19 hB d_T_step_16 (by decide) rfl (fun _ => ?_) (fun hc => absurd (nI_le (by omega) (by omega)) hc)
  refine x_aload_n 22 hB d_T_step_21 rfl rfl ?_
  refine x_callP (k' := 0) (n' := 0) (rest := []) (st' := [.int (bI (atM f p))]) 25 hB (x_pfV (av := []) (q0 := 0) hB w_165 xHd_code w_162 w_164 s_T_isAtMark rfl rfl nm_T_isAtMark rfl d_T_step_22) (c_T_isAtMark l E hr h0 false plus first sl bd wr mk rw a0 n p f (by omega) hn hb) w_165 xHd_code w_4 [0, 1, 2] rfl rfl ⟨by decide, by decide⟩ ⟨by decide, by decide⟩ rfl rfl (Nat.le_of_ble_eq_true rfl) d_T_step_22 rfl rfl ?_
  refine x_top (v' := .int (nI 1)) (congrArg Value.int (by rw [hM]; rfl)) ?_
  refine x_if_ne 33 28 hB d_T_step_25 (by decide) rfl (fun _ => ?_) (fun hc => absurd hc (by decide))
  refine x_aload_n 34 hB d_T_step_33 rfl rfl ?_
  refine x_iconst (v := nI 1) 35 hB d_T_step_34 rfl (by decide) ?_
  refine x_put 38 hB 0 (ws' := [(hr, .inr (2, [.ref h0, .int (nI 1), .int (nI (sl)), .int (nI (bd)), .int (nI (wr)), .int (bI plus), .int (bI first), .int (nI (mk)), .int (nI (rw))])), (h0, .inr (0, [.ref a0, .int (nI (n)), .int (nI (p))])), (a0, .inl (E.2 0, 2640, .inl (f)))]) fp_T_29_2 rfl (rfl) (rfl) (Nat.le_of_ble_eq_true rfl) rfl d_T_step_35 rfl ?_
  refine x_aload_n 39 hB d_T_step_38 rfl rfl ?_
  refine x_iconst (v := nI 1) 40 hB d_T_step_39 rfl (by decide) ?_
  refine x_put 43 hB 0 (ws' := [(hr, .inr (2, [.ref h0, .int (nI 1), .int (nI (sl)), .int (nI (bd)), .int (nI (wr)), .int (bI plus), .int (nI 1), .int (nI (mk)), .int (nI (rw))])), (h0, .inr (0, [.ref a0, .int (nI (n)), .int (nI (p))])), (a0, .inl (E.2 0, 2640, .inl (f)))]) fp_T_15_2 rfl (rfl) (rfl) (Nat.le_of_ble_eq_true rfl) rfl d_T_step_40 rfl ?_
  refine x_aload_n 44 hB d_T_step_43 rfl rfl ?_
  refine x_get 47 hB 0 fg_T_32_2 rfl rfl d_T_step_44 rfl ?_
  refine x_callP (k' := 0) (n' := 0) (rest := []) (st' := [.int (nI (n - p))]) 50 hB (x_pfV (av := []) (q0 := 1) hB w_161 xHd_code w_158 w_159 w_160 rfl rfl nm_L_left rfl d_T_step_47) (c_L_left l E h0 a0 n p hp) w_161 xHd_code w_2 [1] rfl rfl ⟨by decide, by decide⟩ ⟨by decide, by decide⟩ rfl rfl (Nat.le_of_ble_eq_true rfl) d_T_step_47 rfl rfl ?_
  refine x_bipush (v := nI 10) 52 hB d_T_step_50 rfl (by decide) ?_
  refine x_icmp_ge 59 55 hB d_T_step_52 (by decide) rfl (fun _ => ?_) (fun hc => absurd (nI_le (by omega) (by omega)) hc)
  refine x_aload_n 60 hB d_T_step_59 rfl rfl ?_
  refine x_callD (k' := 0) (n' := 0) (rest := []) (wr := []) (ws' := [(hr, .inr (2, [.ref h0, .int (bI (tkO true mk (tkK (ahN f p 10) plus true))), .int (nI (sl)), .int (nI (bd + (if (tkK (ahN f p 10) plus true) = 1 then 1 else 0))), .int (nI (wr + (if (tkK (ahN f p 10) plus true) = 2 then 1 else 0))), .int (bI (tkP (ahN f p 10) plus true)), .int (nI 0), .int (nI (tkM mk rw (tkK (ahN f p 10) plus true))), .int (nI (tkW rw (tkK (ahN f p 10) plus true)))])), (h0, .inr (0, [.ref a0, .int (nI (n)), .int (nI (p + 10))])), (a0, .inl (E.2 0, 2640, .inl (f)))]) (st' := [.int (tkR (ahN f p 10) plus true)]) 63 hB (x_pfV (av := []) (q0 := 0) hB w_195 xHd_code w_192 w_194 s_T_takeTen rfl rfl nm_T_takeTen rfl d_T_step_60) (c_T_takeTen l E hr h0 true plus true sl bd wr mk rw a0 n p f (by omega) hn hb hm hw) w_195 xHd_code w_4 [0, 1, 2] [] rfl rfl rfl rfl (by decide) ⟨by decide, by decide⟩ ⟨by decide, by decide⟩ rfl rfl (Nat.le_of_ble_eq_true rfl) d_T_step_60 rfl rfl rfl ?_
  exact x_iret hB (w' := [(hr, .inr (2, [.ref h0, .int (bI (tkO true mk (tkK (ahN f p 10) plus true))), .int (nI (sl)), .int (nI (bd + (if (tkK (ahN f p 10) plus true) = 1 then 1 else 0))), .int (nI (wr + (if (tkK (ahN f p 10) plus true) = 2 then 1 else 0))), .int (bI (tkP (ahN f p 10) plus true)), .int (nI 0), .int (nI (tkM mk rw (tkK (ahN f p 10) plus true))), .int (nI (tkW rw (tkK (ahN f p 10) plus true)))])), (h0, .inr (0, [.ref a0, .int (nI (n)), .int (nI (p + 10))])), (a0, .inl (E.2 0, 2640, .inl (f)))]) hA [0, 1, 2] rfl rfl (xRet_i) (by decide) (by decide) d_T_step_63
abbrev rm_T_step_4 : Room := { frames := 5, cells := 0, slots := 0, locals := 119 }
set_option maxHeartbeats 4000000 in
set_option maxRecDepth 100000 in
theorem c_T_step_4 (l : Launch) (E : xE) (hr h0 : Nat) (plus first : Bool) (sl bd wr mk rw : Nat) (a0 n p : Nat) (f : Nat → Int32) (hn : n ≤ 2640) (hb : ∀ i, i < n → f i = 0 ∨ f i = 1) (hm : mk < 4) (hw : rw < 4) (hp : p ≤ n) (hc2 : n - p < 10) : xC l E y_T_step (.code y_T_step prog_6_method_5_code 1 (some .int)) rm_T_step_4 [.ref hr] [(hr, .inr (2, [.ref h0, .int (bI true), .int (nI (sl)), .int (nI (bd)), .int (nI (wr)), .int (bI plus), .int (bI first), .int (nI (mk)), .int (nI (rw))])), (h0, .inr (0, [.ref a0, .int (nI (n)), .int (nI (p))])), (a0, .inl (E.2 0, 2640, .inl (f)))] (xRet (some (.int (-1))) [(hr, .inr (2, [.ref h0, .int (bI true), .int (nI (sl)), .int (nI (bd)), .int (nI (wr)), .int (bI plus), .int (bI first), .int (nI (mk)), .int (nI (rw))])), (h0, .inr (0, [.ref a0, .int (nI (n)), .int (nI (p))])), (a0, .inl (E.2 0, 2640, .inl (f)))]) := by
  refine x_of' (own := "LineCoder$TenReceiver") (mn := "step") (lv := [(0, .ref hr)]) (plainFor_of_name (by decide)) rfl rfl (Nat.le_of_ble_eq_true rfl) rfl ?_
  intro p_ e_ s_ m_ ar_ be_ me_ c_ A_ hA hB
  refine x_aload_n 1 hB d_T_step_0 rfl rfl ?_
  refine x_get 4 hB 0 fg_T_29_2 rfl rfl d_T_step_1 rfl ?_
  refine x_if_ne 43 7 hB d_T_step_4 (by decide) rfl (fun _ => ?_) (fun hc => absurd hc (by decide))
  refine x_aload_n 44 hB d_T_step_43 rfl rfl ?_
  refine x_get 47 hB 0 fg_T_32_2 rfl rfl d_T_step_44 rfl ?_
  refine x_callP (k' := 0) (n' := 0) (rest := []) (st' := [.int (nI (n - p))]) 50 hB (x_pfV (av := []) (q0 := 1) hB w_161 xHd_code w_158 w_159 w_160 rfl rfl nm_L_left rfl d_T_step_47) (c_L_left l E h0 a0 n p hp) w_161 xHd_code w_2 [1] rfl rfl ⟨by decide, by decide⟩ ⟨by decide, by decide⟩ rfl rfl (Nat.le_of_ble_eq_true rfl) d_T_step_47 rfl rfl ?_
  refine x_bipush (v := nI 10) 52 hB d_T_step_50 rfl (by decide) ?_
  refine x_icmp_ge 59 55 hB d_T_step_52 (by decide) rfl (fun hc => absurd hc (nI_ge (by omega) (by omega))) (fun _ => ?_)
  refine x_iconst (v := (-1 : Int32)) 56 hB d_T_step_55 rfl (by decide) ?_
  refine x_goto 63 hB d_T_step_56 (by decide) ?_
  exact x_iret hB (w' := [(hr, .inr (2, [.ref h0, .int (bI true), .int (nI (sl)), .int (nI (bd)), .int (nI (wr)), .int (bI plus), .int (bI first), .int (nI (mk)), .int (nI (rw))])), (h0, .inr (0, [.ref a0, .int (nI (n)), .int (nI (p))])), (a0, .inl (E.2 0, 2640, .inl (f)))]) hA [0, 1, 2] rfl rfl (xRet_i) (by decide) (by decide) d_T_step_63
abbrev rm_T_step_5 : Room := { frames := 5, cells := 0, slots := 0, locals := 119 }
set_option maxHeartbeats 4000000 in
set_option maxRecDepth 100000 in
theorem c_T_step_5 (l : Launch) (E : xE) (hr h0 : Nat) (plus first : Bool) (sl bd wr mk rw : Nat) (a0 n p : Nat) (f : Nat → Int32) (hn : n ≤ 2640) (hb : ∀ i, i < n → f i = 0 ∨ f i = 1) (hm : mk < 4) (hw : rw < 4) (hp : p ≤ n) (hc2 : ¬ n - p < 10) : xC l E y_T_step (.code y_T_step prog_6_method_5_code 1 (some .int)) rm_T_step_5 [.ref hr] [(hr, .inr (2, [.ref h0, .int (bI true), .int (nI (sl)), .int (nI (bd)), .int (nI (wr)), .int (bI plus), .int (bI first), .int (nI (mk)), .int (nI (rw))])), (h0, .inr (0, [.ref a0, .int (nI (n)), .int (nI (p))])), (a0, .inl (E.2 0, 2640, .inl (f)))] (xRet (some (.int (tkR (ahN f p 10) plus first))) [(hr, .inr (2, [.ref h0, .int (bI (tkO true mk (tkK (ahN f p 10) plus first))), .int (nI (sl)), .int (nI (bd + (if (tkK (ahN f p 10) plus first) = 1 then 1 else 0))), .int (nI (wr + (if (tkK (ahN f p 10) plus first) = 2 then 1 else 0))), .int (bI (tkP (ahN f p 10) plus first)), .int (nI 0), .int (nI (tkM mk rw (tkK (ahN f p 10) plus first))), .int (nI (tkW rw (tkK (ahN f p 10) plus first)))])), (h0, .inr (0, [.ref a0, .int (nI (n)), .int (nI (p + 10))])), (a0, .inl (E.2 0, 2640, .inl (f)))]) := by
  refine x_of' (own := "LineCoder$TenReceiver") (mn := "step") (lv := [(0, .ref hr)]) (plainFor_of_name (by decide)) rfl rfl (Nat.le_of_ble_eq_true rfl) rfl ?_
  intro p_ e_ s_ m_ ar_ be_ me_ c_ A_ hA hB
  refine x_aload_n 1 hB d_T_step_0 rfl rfl ?_
  refine x_get 4 hB 0 fg_T_29_2 rfl rfl d_T_step_1 rfl ?_
  refine x_if_ne 43 7 hB d_T_step_4 (by decide) rfl (fun _ => ?_) (fun hc => absurd hc (by decide))
  refine x_aload_n 44 hB d_T_step_43 rfl rfl ?_
  refine x_get 47 hB 0 fg_T_32_2 rfl rfl d_T_step_44 rfl ?_
  refine x_callP (k' := 0) (n' := 0) (rest := []) (st' := [.int (nI (n - p))]) 50 hB (x_pfV (av := []) (q0 := 1) hB w_161 xHd_code w_158 w_159 w_160 rfl rfl nm_L_left rfl d_T_step_47) (c_L_left l E h0 a0 n p hp) w_161 xHd_code w_2 [1] rfl rfl ⟨by decide, by decide⟩ ⟨by decide, by decide⟩ rfl rfl (Nat.le_of_ble_eq_true rfl) d_T_step_47 rfl rfl ?_
  refine x_bipush (v := nI 10) 52 hB d_T_step_50 rfl (by decide) ?_
  refine x_icmp_ge 59 55 hB d_T_step_52 (by decide) rfl (fun _ => ?_) (fun hc => absurd (nI_le (by omega) (by omega)) hc)
  refine x_aload_n 60 hB d_T_step_59 rfl rfl ?_
  refine x_callD (k' := 0) (n' := 0) (rest := []) (wr := []) (ws' := [(hr, .inr (2, [.ref h0, .int (bI (tkO true mk (tkK (ahN f p 10) plus first))), .int (nI (sl)), .int (nI (bd + (if (tkK (ahN f p 10) plus first) = 1 then 1 else 0))), .int (nI (wr + (if (tkK (ahN f p 10) plus first) = 2 then 1 else 0))), .int (bI (tkP (ahN f p 10) plus first)), .int (nI 0), .int (nI (tkM mk rw (tkK (ahN f p 10) plus first))), .int (nI (tkW rw (tkK (ahN f p 10) plus first)))])), (h0, .inr (0, [.ref a0, .int (nI (n)), .int (nI (p + 10))])), (a0, .inl (E.2 0, 2640, .inl (f)))]) (st' := [.int (tkR (ahN f p 10) plus first)]) 63 hB (x_pfV (av := []) (q0 := 0) hB w_195 xHd_code w_192 w_194 s_T_takeTen rfl rfl nm_T_takeTen rfl d_T_step_60) (c_T_takeTen l E hr h0 true plus first sl bd wr mk rw a0 n p f (by omega) hn hb hm hw) w_195 xHd_code w_4 [0, 1, 2] [] rfl rfl rfl rfl (by decide) ⟨by decide, by decide⟩ ⟨by decide, by decide⟩ rfl rfl (Nat.le_of_ble_eq_true rfl) d_T_step_60 rfl rfl rfl ?_
  exact x_iret hB (w' := [(hr, .inr (2, [.ref h0, .int (bI (tkO true mk (tkK (ahN f p 10) plus first))), .int (nI (sl)), .int (nI (bd + (if (tkK (ahN f p 10) plus first) = 1 then 1 else 0))), .int (nI (wr + (if (tkK (ahN f p 10) plus first) = 2 then 1 else 0))), .int (bI (tkP (ahN f p 10) plus first)), .int (nI 0), .int (nI (tkM mk rw (tkK (ahN f p 10) plus first))), .int (nI (tkW rw (tkK (ahN f p 10) plus first)))])), (h0, .inr (0, [.ref a0, .int (nI (n)), .int (nI (p + 10))])), (a0, .inl (E.2 0, 2640, .inl (f)))]) hA [0, 1, 2] rfl rfl (xRet_i) (by decide) (by decide) d_T_step_63
set_option maxHeartbeats 4000000 in
theorem c_T_step (l : Launch) (E : xE) (hr h0 : Nat) (fo plus first : Bool) (sl bd wr mk rw : Nat) (a0 n p : Nat) (f : Nat → Int32) (hn : n ≤ 2640) (hb : ∀ i, i < n → f i = 0 ∨ f i = 1) (hm : mk < 4) (hw : rw < 4) (hp : p ≤ n) : xC l E y_T_step (.code y_T_step prog_6_method_5_code 1 (some .int)) rm_T_step_0 [.ref hr] [(hr, .inr (2, [.ref h0, .int (bI fo), .int (nI (sl)), .int (nI (bd)), .int (nI (wr)), .int (bI plus), .int (bI first), .int (nI (mk)), .int (nI (rw))])), (h0, .inr (0, [.ref a0, .int (nI (n)), .int (nI (p))])), (a0, .inl (E.2 0, 2640, .inl (f)))] (xRet (some (.int (rcR (rcC f n p fo) (ahN f p 10) plus first))) [(hr, .inr (2, [.ref h0, .int (bI (rcO (rcC f n p fo) (ahN f p 10) plus first mk)), .int (nI (rcS (rcC f n p fo) sl)), .int (nI (rcN 1 (rcC f n p fo) (ahN f p 10) plus first bd)), .int (nI (rcN 2 (rcC f n p fo) (ahN f p 10) plus first wr)), .int (bI (rcP (rcC f n p fo) (ahN f p 10) plus first)), .int (bI (rcF (rcC f n p fo) first)), .int (nI (rcM (rcC f n p fo) (ahN f p 10) plus first mk rw)), .int (nI (rcW (rcC f n p fo) (ahN f p 10) plus first rw))])), (h0, .inr (0, [.ref a0, .int (nI (n)), .int (nI (rcL (rcC f n p fo) p))])), (a0, .inl (E.2 0, 2640, .inl (f)))]) := by
  cases fo with
  | false =>
    by_cases hc : n - p < 7
    · have e : rcC f n p false = 0 := by simp [rcC, hc]
      rw [e]
      exact c_T_step_0 l E hr h0 plus first sl bd wr mk rw a0 n p f hn hb hm hw hp hc
    · cases hM : atM f p with
      | false =>
        have e : rcC f n p false = 1 := by simp [rcC, hc, hM]
        rw [e]
        exact c_T_step_1 l E hr h0 plus first sl bd wr mk rw a0 n p f hn hb hm hw hp hc hM
      | true =>
        by_cases hc2 : n - p < 10
        · have e : rcC f n p false = 2 := by simp [rcC, hc, hM, hc2]
          rw [e]
          exact c_T_step_2 l E hr h0 plus first sl bd wr mk rw a0 n p f hn hb hm hw hp hc hc2 hM
        · have e : rcC f n p false = 3 := by simp [rcC, hc, hM, hc2]
          rw [e]
          exact c_T_step_3 l E hr h0 plus first sl bd wr mk rw a0 n p f hn hb hm hw hp hc2 hM
  | true =>
    by_cases hc2 : n - p < 10
    · have e : rcC f n p true = 4 := by simp [rcC, hc2]
      rw [e]
      exact c_T_step_4 l E hr h0 plus first sl bd wr mk rw a0 n p f hn hb hm hw hp hc2
    · have e : rcC f n p true = 5 := by simp [rcC, hc2]
      rw [e]
      exact c_T_step_5 l E hr h0 plus first sl bd wr mk rw a0 n p f hn hb hm hw hp hc2
